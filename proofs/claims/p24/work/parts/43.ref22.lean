theorem dX12_dropsNots_0 : decode cX12_dropsNots 0 = .ok (.aload_n 0, 1) := by decide +kernel
theorem dX12_dropsNots_1 : decode cX12_dropsNots 1 = .ok (.getfield 191, 3) := by decide +kernel
theorem dX12_dropsNots_4 : decode cX12_dropsNots 4 = .ok (.ifCond .ne 29, 3) := by decide +kernel
theorem dX12_dropsNots_7 : decode cX12_dropsNots 7 = .ok (.aload_n 0, 1) := by decide +kernel
theorem dX12_dropsNots_8 : decode cX12_dropsNots 8 = .ok (.bipush 16, 2) := by decide +kernel
theorem dX12_dropsNots_10 : decode cX12_dropsNots 10 = .ok (.invokevirtual 308, 3) := by decide +kernel
theorem dX12_dropsNots_13 : decode cX12_dropsNots 13 = .ok (.ifCond .eq 20, 3) := by decide +kernel
theorem dX12_dropsNots_16 : decode cX12_dropsNots 16 = .ok (.aload_n 0, 1) := by decide +kernel
theorem dX12_dropsNots_17 : decode cX12_dropsNots 17 = .ok (.dup, 1) := by decide +kernel
theorem dX12_dropsNots_18 : decode cX12_dropsNots 18 = .ok (.getfield 260, 3) := by decide +kernel
theorem dX12_dropsNots_21 : decode cX12_dropsNots 21 = .ok (.iconst 1, 1) := by decide +kernel
theorem dX12_dropsNots_22 : decode cX12_dropsNots 22 = .ok (.isub, 1) := by decide +kernel
theorem dX12_dropsNots_23 : decode cX12_dropsNots 23 = .ok (.putfield 260, 3) := by decide +kernel
theorem dX12_dropsNots_26 : decode cX12_dropsNots 26 = .ok (.aload_n 0, 1) := by decide +kernel
theorem dX12_dropsNots_27 : decode cX12_dropsNots 27 = .ok (.invokevirtual 276, 3) := by decide +kernel
theorem dX12_dropsNots_30 : decode cX12_dropsNots 30 = .ok (.goto (-30), 3) := by decide +kernel
theorem dX12_dropsNots_33 : decode cX12_dropsNots 33 = .ok (.return_, 1) := by decide +kernel
def v_q_dropsNots : List Cond := .code yX12_dropsNots cX12_dropsNots 1 none :: ([.fieldLink RX12 191 "SlopeRunnerModel" "bad" "I", .fieldLink RX12 260 "SlopeRunnerModel" "open" "I"] ++ ((wsV RX12 308 RX12 yX12_isOn v_q_isOn) ++ ((wsV RX12 276 RX12 yX12_drops v_q_drops) ++ wsX120)))
theorem g_q_dropsNots_0 : GoodIn v_q_dropsNots (wsV RX12 308 RX12 yX12_isOn v_q_isOn) := goodIn_sub (fun w h => List.mem_cons_of_mem _ (List.mem_append_right _ (List.mem_append_left _ h))) (by decide +kernel)
theorem g_q_dropsNots_1 : GoodIn v_q_dropsNots (wsV RX12 276 RX12 yX12_drops v_q_drops) := goodIn_sub (fun w h => List.mem_cons_of_mem _ (List.mem_append_right _ (List.mem_append_right _ (List.mem_append_left _ h)))) (by decide +kernel)
set_option maxHeartbeats 4000000 in
set_option maxRecDepth 100000 in
theorem q_dropsNots (l : Launch) (D : va_G) (y : Nat → ClassId) (sz : Nat) (ad : Nat → Nat) (zw : Nat → Nat → Int32) (σ : OS) (f0 : Nat → Int32) (c0 : Nat) (X o0 : Int) (hb0 : (σ.1 5).toInt = 0) (ho2 : 0 ≤ o0) (ho0 : 0 ≤ (σ.1 32).toInt) (ho1 : (σ.1 32).toInt ≤ 8) (hw0 : 0 ≤ (σ.1 31).toInt) (hw1 : (σ.1 31).toInt ≤ 800) (hc0 : 0 ≤ (σ.1 29).toInt) (hc1 : (σ.1 29).toInt + (σ.1 31).toInt < 1200) (hX1 : 1000 ≤ X) (hts0 : TS f0 (σ.2.2.1 27) (σ.2.2.1 30) c0 (σ.1 29).toInt.toNat (σ.1 31).toInt.toNat 1 X (σ.1 32).toInt o0) : Met l yX12_dropsNots v_q_dropsNots ({ frames := 2, cells := 0, slots := 0, locals := 41 } : Room) (va_Pc [.ref (ad 1)] (xPre D (xT y) (mwd y ad zw σ) sz)) (va_Qv (fun (u : Int32 × Int32 × (Nat → Int32) × Int32) => 0 ≤ u.2.2.2.toInt ∧ u.2.2.2.toInt ≤ 8 ∧ 0 ≤ u.1.toInt ∧ u.1.toInt ≤ (σ.1 31).toInt ∧ (σ.1 29).toInt ≤ u.2.1.toInt ∧ u.2.1.toInt + u.1.toInt = (σ.1 29).toInt + (σ.1 31).toInt ∧ (u.1.toInt = 0 ∨ ((σ.2.2.1 30) (u.1.toInt.toNat - 1)).toInt ≠ 16) ∧ TS f0 u.2.2.1 (σ.2.2.1 30) c0 u.2.1.toInt.toNat u.1.toInt.toNat 1 X u.2.2.2.toInt o0) (fun (u : Int32 × Int32 × (Nat → Int32) × Int32) => xB D (xT y) (va_A (mwd y ad zw σ) sz) (mwd y ad zw (sI (tI (sI (sI σ 31 u.1) 29 u.2.1) 27 u.2.2.1) 32 u.2.2.2))) (va_A (mwd y ad zw σ) sz)) 0 0 (va_A (mwd y ad zw σ) sz) := by
  refine x_metv (cc := cX12_dropsNots) (maxL := 1) (by decide) rfl (Nat.le_of_ble_eq_true rfl) ?_
  intro p e s m below meth c A H locs Q hx hb hml hown hts hr hlocks hmn hA hP hK hD hS ls hl hQ
  have hl : lv_has ls 1 [(0, .ref (ad 1))] := hl
  have fl191 := hts (.fieldLink RX12 191 "SlopeRunnerModel" "bad" "I") (List.mem_of_getElem? (i := 1) rfl)
  have inX12 : ∀ w ∈ wsX120, w ∈ v_q_dropsNots := (fun w h => List.mem_cons_of_mem _ (List.mem_append_right _ (List.mem_append_right _ (List.mem_append_right _ h))))
  have kk_0 : (0 : Int32).toInt = 0 := rfl
  have kk_16 : (16 : Int32).toInt = 16 := rfl
  have fl260 := hts (.fieldLink RX12 260 "SlopeRunnerModel" "open" "I") (List.mem_of_getElem? (i := 2) rfl)
  have kk_1 : (1 : Int32).toInt = 1 := rfl
  have hP : va_P D vwCl (mwd y ad zw (sI (sI (tI (sI σ 29 (σ.1 29)) 27 (σ.2.2.1 27)) 32 (σ.1 32)) 31 (σ.1 31))) H := hP
  have hD : va_D A (mwd y ad zw (sI (sI (tI (sI σ 29 (σ.1 29)) 27 (σ.2.2.1 27)) 32 (σ.1 32)) 31 (σ.1 31))) := hD
  have loop : ∀ (fu : Nat) (cd : Int32) (fc : Nat → Int32) (op : Int32) (ws : Int32) (H : Heap) (locs : List Loc) (ls : Array Slot), (0 ≤ op.toInt) → (op.toInt ≤ 8) → (0 ≤ ws.toInt) → (ws.toInt ≤ (σ.1 31).toInt) → ((σ.1 29).toInt ≤ cd.toInt) → (cd.toInt + ws.toInt = (σ.1 29).toInt + (σ.1 31).toInt) → (TS f0 fc (σ.2.2.1 30) c0 cd.toInt.toNat ws.toInt.toNat 1 X op.toInt o0) → (ws.toInt < (fu : Int)) → va_P D vwCl (mwd y ad zw (sI (sI (tI (sI σ 29 cd) 27 fc) 32 op) 31 ws)) H → va_D A (mwd y ad zw (sI (sI (tI (sI σ 29 cd) 27 fc) 32 op) 31 ws)) → va_S A s.heap H locs → lv_has ls 1 [(0, .ref (ad 1))] → W p l e ({ frames := 2, cells := 0, slots := 0, locals := 41 } : Room) s m ([.ref (ad 1)] : List Value).toArray below meth c H locs 0 0 Q (F0 m 0 ls []) := by
    intro fu
    induction fu with
    | zero =>
      intro cd fc op ws H locs ls hO0 hO1 hW0 hW1 hC0 hcs hE hm
      exact absurd hm (by omega)
    | succ fu ih_loop =>
      intro cd fc op ws H locs ls hO0 hO1 hW0 hW1 hC0 hcs hE hm hP hD hS hl
      refine lv_aload_n hx hb dX12_dropsNots_0 rfl (lv_at hl 0 rfl) ?_
      refine va_get (D := D) (ci := 11) (v := .int (σ.1 5)) (C := RX12) (T := TX12) (N := 85) hx hb hts inX12 hown hK hP 0 mwd_o0 rfl 5 (by decide) fl191 (fun _ h9 => h9) rfl dX12_dropsNots_1 ?_
      refine lv_if_ne (tgt := 33) hx hb dX12_dropsNots_4 (by decide) (fun c_1 => ?_) (fun c_1 => ?_)
      · have kc_1 : (σ.1 5).toInt ≠ 0 := by have h9 := c_1; simp only [ge_iff_le, gt_iff_lt, x_lt, x_le, x_eq, ne_eq, Int32.not_lt, Int32.not_le] at h9; simp only [Int32.reduceToInt] at h9; omega
        exfalso
        omega
      · have kc_1 : (σ.1 5).toInt = 0 := by have h9 := c_1; simp only [ge_iff_le, gt_iff_lt, x_lt, x_le, x_eq, ne_eq, Int32.not_lt, Int32.not_le] at h9; simp only [Int32.reduceToInt] at h9; omega
        refine lv_aload_n hx hb dX12_dropsNots_7 rfl (lv_at hl 0 rfl) ?_
        refine lv_bipush (v := 16) hx hb dX12_dropsNots_8 (by decide) ?_
        refine x_calliW (va_runV (As := [.int 16]) (rest := []) ⟨hx, hb, hml, hown, hts⟩ (q_isOn l D y H.size ad zw (sI (sI (tI (sI σ 29 cd) 27 fc) 32 op) 31 ws) 16 (show 0 ≤ (ws).toInt from by first | omega | decide) (show (ws).toInt ≤ 800 from by first | omega | decide)) (cwV 1 hts g_q_dropsNots_0 rfl rfl rfl (by decide +kernel) ⟨Nat.le_of_ble_eq_true rfl, Nat.le_of_ble_eq_true rfl⟩) (x_preV (q := (RX12, TX12, 85)) hK hP hD (ci := 11) (q0 := 0) rfl mwd_o0) rfl rfl hl.1 rfl (lv_room (Nat.le_of_ble_eq_true rfl)) dX12_dropsNots_10 ⟨Nat.le_of_ble_eq_true rfl, Nat.le_of_ble_eq_true rfl⟩) hP hD hS hA (fun r_2 u H locs hw hP hD hS => ?_)
        try dsimp only at hw
        have hP : va_P D vwCl (mwd y ad zw (sI (sI (tI (sI σ 29 cd) 27 fc) 32 op) 31 ws)) H := hP
        have hD : va_D A (mwd y ad zw (sI (sI (tI (sI σ 29 cd) 27 fc) 32 op) 31 ws)) := hD
        replace hw : (r_2.toInt = 0 ∧ ((ws).toInt ≤ 0 ∨ (((σ.2.2.1 30)) ((ws).toInt.toNat - 1)).toInt ≠ (16 : Int32).toInt)) ∨ (r_2.toInt = 1 ∧ 1 ≤ (ws).toInt ∧ (((σ.2.2.1 30)) ((ws).toInt.toNat - 1)).toInt = (16 : Int32).toInt) := hw
        rcases hw with ⟨hi1, hi2⟩ | ⟨hi1, hi2, hi3⟩
        · have l16 : (16 : Int32).toInt = 16 := rfl
          have hnt : ws.toInt = 0 ∨ ((σ.2.2.1 30) (ws.toInt.toNat - 1)).toInt ≠ 16 := by rcases hi2 with h9 | h9 <;> first | exact Or.inl (by omega) | exact Or.inr (fun h8 => h9 (h8.trans l16.symm))
          clear hi2
          refine lv_if_eq (tgt := 33) hx hb dX12_dropsNots_13 (by decide) (fun c_3 => ?_) (fun c_3 => ?_)
          · have kc_3 : r_2.toInt = 0 := by have h9 := c_3; simp only [ge_iff_le, gt_iff_lt, x_lt, x_le, x_eq, ne_eq, Int32.not_lt, Int32.not_le] at h9; simp only [Int32.reduceToInt] at h9; omega
            have hP : va_P D vwCl (mwd y ad zw (sI (tI (sI (sI σ 31 ws) 29 cd) 27 fc) 32 op)) H := hP
            have hD : va_D A (mwd y ad zw (sI (tI (sI (sI σ 31 ws) 29 cd) 27 fc) 32 op)) := hD
            exact x_vretW (u := (ws, cd, fc, op)) hx hb hr hQ (by (try dsimp only); exact ⟨by omega, by omega, by omega, by omega, by omega, by omega, hnt, hE⟩) hP hD hK hS dX12_dropsNots_33 hlocks
          · have kc_3 : r_2.toInt ≠ 0 := by have h9 := c_3; simp only [ge_iff_le, gt_iff_lt, x_lt, x_le, x_eq, ne_eq, Int32.not_lt, Int32.not_le] at h9; simp only [Int32.reduceToInt] at h9; omega
            exfalso
            omega
        · have l16 : (16 : Int32).toInt = 16 := rfl
          have hopn : 1 ≤ op.toInt := by have h9 := (TS_not hE (by omega) (by omega) rfl hX1).2.2.2.2.1; omega
          refine lv_if_eq (tgt := 33) hx hb dX12_dropsNots_13 (by decide) (fun c_4 => ?_) (fun c_4 => ?_)
          · have kc_4 : r_2.toInt = 0 := by have h9 := c_4; simp only [ge_iff_le, gt_iff_lt, x_lt, x_le, x_eq, ne_eq, Int32.not_lt, Int32.not_le] at h9; simp only [Int32.reduceToInt] at h9; omega
            exfalso
            omega
          · have kc_4 : r_2.toInt ≠ 0 := by have h9 := c_4; simp only [ge_iff_le, gt_iff_lt, x_lt, x_le, x_eq, ne_eq, Int32.not_lt, Int32.not_le] at h9; simp only [Int32.reduceToInt] at h9; omega
            refine lv_aload_n hx hb dX12_dropsNots_16 rfl (lv_at hl 0 rfl) ?_
            refine lv_dup hx hb dX12_dropsNots_17 rfl ?_
            refine va_get (D := D) (ci := 11) (v := .int op) (C := RX12) (T := TX12) (N := 85) hx hb hts inX12 hown hK hP 0 mwd_o0 rfl 32 (by decide) fl260 (fun _ h9 => h9) rfl dX12_dropsNots_18 ?_
            refine lv_iconst (v := 1) hx hb dX12_dropsNots_21 (by decide) ?_
            refine lv_isub hx hb dX12_dropsNots_22 ?_
            refine lv_topi (fun i_5 ei_5 => ?_)
            have vi_5 : i_5.toInt = op.toInt - 1 := by have h9 := x_sub ei_5 (by omega) (by omega); omega
            refine va_put (D := D) (ci := 11) (v := .int i_5) (ty := .int) (C := RX12) (T := TX12) (N := 85) hx hb hts inX12 tyX12 tyX12_ok nmX12 hown hK hP hD hS 0 mwd_o0 rfl 32 (by decide) fl260 (fun _ h9 => h9) rfl (by decide +kernel) rfl rfl (Nat.le_of_ble_eq_true rfl) dX12_dropsNots_23 (fun H locs hP hD hS => ?_)
            have hP : va_P D vwCl (mwd y ad zw (sI (sI (sI (tI (sI σ 29 cd) 27 fc) 32 op) 31 ws) 32 i_5)) H := x_trP hP mwd_p0_32
            have hD : va_D A (mwd y ad zw (sI (sI (sI (tI (sI σ 29 cd) 27 fc) 32 op) 31 ws) 32 i_5)) := x_trD hD mwd_p0_32
            refine lv_aload_n hx hb dX12_dropsNots_26 rfl (lv_at hl 0 rfl) ?_
            refine x_callvW (va_runV (As := []) (rest := []) ⟨hx, hb, hml, hown, hts⟩ (q_drops l D y H.size ad zw (sI (sI (sI (tI (sI σ 29 cd) 27 fc) 32 op) 31 ws) 32 i_5) (show 1 ≤ (ws).toInt from by first | omega | decide) (show (ws).toInt ≤ 800 from by first | omega | decide) (show 0 ≤ (cd).toInt from by first | omega | decide) (show (cd).toInt < 1200 from by first | omega | decide)) (cwV 0 hts g_q_dropsNots_1 rfl rfl rfl (by decide +kernel) ⟨Nat.le_of_ble_eq_true rfl, Nat.le_of_ble_eq_true rfl⟩) (x_preV (q := (RX12, TX12, 85)) hK hP hD (ci := 11) (q0 := 0) rfl mwd_o0) rfl rfl hl.1 rfl (lv_room (Nat.le_of_ble_eq_true rfl)) dX12_dropsNots_27 ⟨Nat.le_of_ble_eq_true rfl, Nat.le_of_ble_eq_true rfl⟩) hP hD hS hA (fun u H locs hw hP hD hS => ?_)
            obtain ⟨n_6, n_7, f_8⟩ := u
            try dsimp only at hw
            have hP : va_P D vwCl (mwd y ad zw (tI (sI (sI (sI (sI (sI (tI (sI σ 29 cd) 27 fc) 32 op) 31 ws) 32 i_5) 31 n_6) 29 n_7) 27 f_8)) H := hP
            have hD : va_D A (mwd y ad zw (tI (sI (sI (sI (sI (sI (tI (sI σ 29 cd) 27 fc) 32 op) 31 ws) 32 i_5) 31 n_6) 29 n_7) 27 f_8)) := hD
            replace hw : n_6.toInt = (ws).toInt - 1 ∧ n_7.toInt = (cd).toInt + 1 ∧ f_8 = upd (fc) (cd).toInt.toNat (((σ.2.2.1 30)) ((ws).toInt.toNat - 1)) := hw
            refine lv_goto (tgt := 0) hx hb dX12_dropsNots_30 (by decide) ?_
            have hP : va_P D vwCl (mwd y ad zw (sI (sI (tI (sI σ 29 n_7) 27 f_8) 32 i_5) 31 n_6)) H := hP
            have hD : va_D A (mwd y ad zw (sI (sI (tI (sI σ 29 n_7) 27 f_8) 32 i_5) 31 n_6)) := hD
            exact ih_loop n_7 f_8 i_5 n_6 H locs ls (by omega) (by omega) (by omega) (by omega) (by omega) (by omega) (by obtain ⟨h7, h6, h5⟩ := hw; rw [h5, show n_7.toInt.toNat = cd.toInt.toNat + 1 by omega, show n_6.toInt.toNat = ws.toInt.toNat - 1 by omega]; exact TS_not hE (by omega) (by omega) (by omega) hX1) (by omega) hP hD hS (lv_sub hl [0] rfl)
  exact loop 801 (σ.1 29) (σ.2.2.1 27) (σ.1 32) (σ.1 31) H locs ls (by omega) (by omega) (by omega) (by omega) (by omega) (by omega) hts0 (by omega) hP hD hS (lv_sub hl [0] rfl)

