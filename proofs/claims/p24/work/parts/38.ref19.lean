theorem dX12_sums_0 : decode cX12_sums 0 = .ok (.aload_n 0, 1) := by decide +kernel
theorem dX12_sums_1 : decode cX12_sums 1 = .ok (.getfield 270, 3) := by decide +kernel
theorem dX12_sums_4 : decode cX12_sums 4 = .ok (.istore_n 1, 1) := by decide +kernel
theorem dX12_sums_5 : decode cX12_sums 5 = .ok (.aload_n 0, 1) := by decide +kernel
theorem dX12_sums_6 : decode cX12_sums 6 = .ok (.aload_n 0, 1) := by decide +kernel
theorem dX12_sums_7 : decode cX12_sums 7 = .ok (.getfield 263, 3) := by decide +kernel
theorem dX12_sums_10 : decode cX12_sums 10 = .ok (.putfield 270, 3) := by decide +kernel
theorem dX12_sums_13 : decode cX12_sums 13 = .ok (.iconst 1, 1) := by decide +kernel
theorem dX12_sums_14 : decode cX12_sums 14 = .ok (.istore_n 2, 1) := by decide +kernel
theorem dX12_sums_15 : decode cX12_sums 15 = .ok (.iload_n 2, 1) := by decide +kernel
theorem dX12_sums_16 : decode cX12_sums 16 = .ok (.ifCond .eq 37, 3) := by decide +kernel
theorem dX12_sums_19 : decode cX12_sums 19 = .ok (.aload_n 0, 1) := by decide +kernel
theorem dX12_sums_20 : decode cX12_sums 20 = .ok (.getfield 191, 3) := by decide +kernel
theorem dX12_sums_23 : decode cX12_sums 23 = .ok (.ifCond .ne 30, 3) := by decide +kernel
theorem dX12_sums_26 : decode cX12_sums 26 = .ok (.aload_n 0, 1) := by decide +kernel
theorem dX12_sums_27 : decode cX12_sums 27 = .ok (.invokevirtual 311, 3) := by decide +kernel
theorem dX12_sums_30 : decode cX12_sums 30 = .ok (.aload_n 0, 1) := by decide +kernel
theorem dX12_sums_31 : decode cX12_sums 31 = .ok (.getfield 191, 3) := by decide +kernel
theorem dX12_sums_34 : decode cX12_sums 34 = .ok (.ifCond .ne 14, 3) := by decide +kernel
theorem dX12_sums_37 : decode cX12_sums 37 = .ok (.aload_n 0, 1) := by decide +kernel
theorem dX12_sums_38 : decode cX12_sums 38 = .ok (.invokevirtual 314, 3) := by decide +kernel
theorem dX12_sums_41 : decode cX12_sums 41 = .ok (.ifCond .eq 7, 3) := by decide +kernel
theorem dX12_sums_44 : decode cX12_sums 44 = .ok (.iconst 1, 1) := by decide +kernel
theorem dX12_sums_45 : decode cX12_sums 45 = .ok (.goto 4, 3) := by decide +kernel
theorem dX12_sums_48 : decode cX12_sums 48 = .ok (.iconst 0, 1) := by decide +kernel
theorem dX12_sums_49 : decode cX12_sums 49 = .ok (.istore_n 2, 1) := by decide +kernel
theorem dX12_sums_50 : decode cX12_sums 50 = .ok (.goto (-35), 3) := by decide +kernel
theorem dX12_sums_53 : decode cX12_sums 53 = .ok (.aload_n 0, 1) := by decide +kernel
theorem dX12_sums_54 : decode cX12_sums 54 = .ok (.getfield 191, 3) := by decide +kernel
theorem dX12_sums_57 : decode cX12_sums 57 = .ok (.ifCond .ne 21, 3) := by decide +kernel
theorem dX12_sums_60 : decode cX12_sums 60 = .ok (.aload_n 0, 1) := by decide +kernel
theorem dX12_sums_61 : decode cX12_sums 61 = .ok (.getfield 263, 3) := by decide +kernel
theorem dX12_sums_64 : decode cX12_sums 64 = .ok (.aload_n 0, 1) := by decide +kernel
theorem dX12_sums_65 : decode cX12_sums 65 = .ok (.getfield 270, 3) := by decide +kernel
theorem dX12_sums_68 : decode cX12_sums 68 = .ok (.if_icmp .le 10, 3) := by decide +kernel
theorem dX12_sums_71 : decode cX12_sums 71 = .ok (.aload_n 0, 1) := by decide +kernel
theorem dX12_sums_72 : decode cX12_sums 72 = .ok (.invokevirtual 276, 3) := by decide +kernel
theorem dX12_sums_75 : decode cX12_sums 75 = .ok (.goto (-22), 3) := by decide +kernel
theorem dX12_sums_78 : decode cX12_sums 78 = .ok (.aload_n 0, 1) := by decide +kernel
theorem dX12_sums_79 : decode cX12_sums 79 = .ok (.iload_n 1, 1) := by decide +kernel
theorem dX12_sums_80 : decode cX12_sums 80 = .ok (.putfield 270, 3) := by decide +kernel
theorem dX12_sums_83 : decode cX12_sums 83 = .ok (.return_, 1) := by decide +kernel
def v_q_sums : List Cond := .code yX12_sums cX12_sums 3 none :: ([.fieldLink RX12 270 "SlopeRunnerModel" "base" "I", .fieldLink RX12 263 "SlopeRunnerModel" "waits" "I", .fieldLink RX12 191 "SlopeRunnerModel" "bad" "I"] ++ ((wsV RX12 276 RX12 yX12_drops v_q_drops) ++ ((wsV RX12 311 RX12 yX12_onePart v_q_onePart) ++ ((wsV RX12 314 RX12 yX12_goesOn v_q_goesOn) ++ wsX120))))
theorem g_q_sums_0 : GoodIn v_q_sums (wsV RX12 276 RX12 yX12_drops v_q_drops) := goodIn_sub (fun w h => List.mem_cons_of_mem _ (List.mem_append_right _ (List.mem_append_left _ h))) (by decide +kernel)
theorem g_q_sums_1 : GoodIn v_q_sums (wsV RX12 311 RX12 yX12_onePart v_q_onePart) := goodIn_sub (fun w h => List.mem_cons_of_mem _ (List.mem_append_right _ (List.mem_append_right _ (List.mem_append_left _ h)))) (by decide +kernel)
theorem g_q_sums_2 : GoodIn v_q_sums (wsV RX12 314 RX12 yX12_goesOn v_q_goesOn) := goodIn_sub (fun w h => List.mem_cons_of_mem _ (List.mem_append_right _ (List.mem_append_right _ (List.mem_append_right _ (List.mem_append_left _ h))))) (by decide +kernel)
set_option maxHeartbeats 4000000 in
set_option maxRecDepth 100000 in
theorem q_sums (l : Launch) (D : va_G) (y : Nat → ClassId) (sz : Nat) (ad : Nat → Nat) (zw : Nat → Nat → Int32) (σ : OS) (ha0 : 0 ≤ (σ.1 2).toInt) (ha1 : (σ.1 2).toInt ≤ (σ.1 3).toInt) (ha2 : (σ.1 3).toInt ≤ 700) (hb0 : (σ.1 5).toInt = 0) (hn0 : 0 ≤ (σ.1 33).toInt) (hn1 : (σ.1 33).toInt ≤ 24) (ho0 : 0 ≤ (σ.1 32).toInt) (ho1 : (σ.1 32).toInt ≤ 8) (hw0 : 0 ≤ (σ.1 31).toInt) (hc0 : 0 ≤ (σ.1 29).toInt) (hcw : (σ.1 29).toInt + (σ.1 31).toInt ≤ (σ.1 2).toInt + 20) (hha0 : 0 ≤ (σ.2.2.1 24 4).toInt) (hhb0 : (σ.2.2.1 24 4).toInt ≤ (σ.1 2).toInt + 20) (hlo : ∀ k : Nat, k < (σ.1 31).toInt.toNat → ¬ (1 ≤ ((σ.2.2.1 30) k).toInt ∧ ((σ.2.2.1 30) k).toInt ≤ 4)) (hoc : (oc (σ.2.2.1 30) (σ.1 31).toInt.toNat : Int) ≤ (σ.1 32).toInt)  (hB35 : bI (σ.2.2.1 35) 0 23) (hB26 : bI (σ.2.2.1 26) 0 9999) : Met l yX12_sums v_q_sums ({ frames := 7, cells := 0, slots := 0, locals := 154 } : Room) (va_Pc [.ref (ad 1)] (xPre D (xT y) (mwd y ad zw σ) sz)) (va_Qv (fun (u : Int32 × Int32 × Int32 × Int32 × Int32 × Int32 × (Nat → Int32) × Int32 × (Nat → Int32) × Int32 × (Nat → Int32) × (Nat → Int32) × Int32) => ((σ.1 2).toInt ≤ u.1.toInt ∧ u.1.toInt ≤ (σ.1 3).toInt ∧ 0 ≤ u.2.2.2.2.2.2.2.1.toInt ∧ u.2.2.2.2.2.2.2.1.toInt ≤ 8 ∧ 0 ≤ u.2.2.2.2.2.2.2.2.2.1.toInt ∧ (σ.1 29).toInt ≤ u.2.2.2.2.2.1.toInt ∧ u.2.2.2.2.2.1.toInt + u.2.2.2.2.2.2.2.2.2.1.toInt - u.1.toInt ≤ (σ.1 29).toInt + (σ.1 31).toInt - (σ.1 2).toInt + 1 ∧ (∀ k : Nat, k ≠ 4 → u.2.2.2.2.2.2.2.2.2.2.1 k = σ.2.2.1 24 k) ∧ (σ.2.2.1 24 4).toInt ≤ (u.2.2.2.2.2.2.2.2.2.2.1 4).toInt ∧ (u.2.2.2.2.2.2.2.2.2.2.1 4).toInt - u.1.toInt ≤ (σ.2.2.1 24 4).toInt - (σ.1 2).toInt + 1 ∧ u.2.2.2.2.2.2.2.2.2.2.2.2 = (σ.1 40) ∧ (u.2.2.1.toInt = 0 → (σ.1 2).toInt + 1 ≤ u.1.toInt ∧ u.2.2.2.2.2.1.toInt + u.2.2.2.2.2.2.2.2.2.1.toInt - u.1.toInt ≤ (σ.1 29).toInt + (σ.1 31).toInt - (σ.1 2).toInt ∧ (u.2.2.2.2.2.2.2.2.2.2.1 4).toInt - u.1.toInt ≤ (σ.2.2.1 24 4).toInt - (σ.1 2).toInt ∧ u.2.2.2.2.2.2.2.2.2.1.toInt = (σ.1 31).toInt ∧ ES (σ.2.2.1 27) u.2.2.2.2.2.2.1 (σ.2.2.1 30) u.2.2.2.2.2.2.2.2.1 ((σ.1 29).toInt.toNat) (u.2.2.2.2.2.1.toInt.toNat) ((σ.1 31).toInt.toNat) (u.2.2.2.2.2.2.2.2.2.1.toInt.toNat) 1 (1000 + (u.2.2.2.2.2.2.2.2.2.2.1 4).toInt) u.2.2.2.2.2.2.2.1.toInt ((σ.1 32).toInt - (oc (σ.2.2.1 30) (σ.1 31).toInt.toNat : Int)))) ∧ bI u.2.2.2.2.2.2.2.2.2.2.2.1 0 9999) (fun (u : Int32 × Int32 × Int32 × Int32 × Int32 × Int32 × (Nat → Int32) × Int32 × (Nat → Int32) × Int32 × (Nat → Int32) × (Nat → Int32) × Int32) => xB D (xT y) (va_A (mwd y ad zw σ) sz) (mwd y ad zw (sI (tI (tI (sI (tI (sI (tI (sI (sI (sI (sI (sI (sI σ 2 u.1) 4 u.2.1) 5 u.2.2.1) 6 u.2.2.2.1) 23 u.2.2.2.2.1) 29 u.2.2.2.2.2.1) 27 u.2.2.2.2.2.2.1) 32 u.2.2.2.2.2.2.2.1) 30 u.2.2.2.2.2.2.2.2.1) 31 u.2.2.2.2.2.2.2.2.2.1) 24 u.2.2.2.2.2.2.2.2.2.2.1) 26 u.2.2.2.2.2.2.2.2.2.2.2.1) 40 u.2.2.2.2.2.2.2.2.2.2.2.2))) (va_A (mwd y ad zw σ) sz)) 0 0 (va_A (mwd y ad zw σ) sz) := by
  refine x_metv (cc := cX12_sums) (maxL := 3) (by decide) rfl (Nat.le_of_ble_eq_true rfl) ?_
  intro p e s m below meth c A H locs Q hx hb hml hown hts hr hlocks hmn hA hP hK hD hS ls hl hQ
  have hl : lv_has ls 3 [(0, .ref (ad 1))] := hl
  have fl270 := hts (.fieldLink RX12 270 "SlopeRunnerModel" "base" "I") (List.mem_of_getElem? (i := 1) rfl)
  have inX12 : ∀ w ∈ wsX120, w ∈ v_q_sums := (fun w h => List.mem_cons_of_mem _ (List.mem_append_right _ (List.mem_append_right _ (List.mem_append_right _ (List.mem_append_right _ h)))))
  have fl263 := hts (.fieldLink RX12 263 "SlopeRunnerModel" "waits" "I") (List.mem_of_getElem? (i := 2) rfl)
  have kk_0 : (0 : Int32).toInt = 0 := rfl
  have fl191 := hts (.fieldLink RX12 191 "SlopeRunnerModel" "bad" "I") (List.mem_of_getElem? (i := 3) rfl)
  refine lv_aload_n hx hb dX12_sums_0 rfl (lv_at hl 0 rfl) ?_
  refine va_get (D := D) (ci := 11) (v := .int (σ.1 40)) (C := RX12) (T := TX12) (N := 85) hx hb hts inX12 hown hK hP 0 mwd_o0 rfl 40 (by decide) fl270 (fun _ h9 => h9) rfl dX12_sums_1 ?_
  refine lv_istore_n (lv' := [(1, .int (σ.1 40)), (0, .ref (ad 1))]) hx hb dX12_sums_4 rfl hl (by decide) rfl (fun ls hl => ?_)
  refine lv_aload_n hx hb dX12_sums_5 rfl (lv_at hl 1 rfl) ?_
  refine lv_aload_n hx hb dX12_sums_6 rfl (lv_at hl 1 rfl) ?_
  refine va_get (D := D) (ci := 11) (v := .int (σ.1 31)) (C := RX12) (T := TX12) (N := 85) hx hb hts inX12 hown hK hP 0 mwd_o0 rfl 31 (by decide) fl263 (fun _ h9 => h9) rfl dX12_sums_7 ?_
  refine va_put (D := D) (ci := 11) (v := .int (σ.1 31)) (ty := .int) (C := RX12) (T := TX12) (N := 85) hx hb hts inX12 tyX12 tyX12_ok nmX12 hown hK hP hD hS 0 mwd_o0 rfl 40 (by decide) fl270 (fun _ h9 => h9) rfl (by decide +kernel) rfl rfl (Nat.le_of_ble_eq_true rfl) dX12_sums_10 (fun H locs hP hD hS => ?_)
  have hP : va_P D vwCl (mwd y ad zw (sI σ 40 (σ.1 31))) H := x_trP hP mwd_p0_40
  have hD : va_D A (mwd y ad zw (sI σ 40 (σ.1 31))) := x_trD hD mwd_p0_40
  refine lv_iconst (v := 1) hx hb dX12_sums_13 (by decide) ?_
  refine lv_istore_n (lv' := [(2, .int 1), (1, .int (σ.1 40)), (0, .ref (ad 1))]) hx hb dX12_sums_14 rfl hl (by decide) rfl (fun ls hl => ?_)
  have l10 : (1 : Int32).toInt = 1 := rfl
  have l00 : (0 : Int32).toInt = 0 := rfl
  have hP : va_P D vwCl (mwd y ad zw (tI (tI (sI (tI (sI (tI (sI (sI (sI (sI (sI (sI (sI σ 40 (σ.1 31)) 2 (σ.1 2)) 4 (σ.1 4)) 5 (σ.1 5)) 6 (σ.1 6)) 23 (σ.1 23)) 29 (σ.1 29)) 27 (σ.2.2.1 27)) 32 (σ.1 32)) 30 (σ.2.2.1 30)) 31 (σ.1 31)) 24 (σ.2.2.1 24)) 26 (σ.2.2.1 26))) H := hP
  have hD : va_D A (mwd y ad zw (tI (tI (sI (tI (sI (tI (sI (sI (sI (sI (sI (sI (sI σ 40 (σ.1 31)) 2 (σ.1 2)) 4 (σ.1 4)) 5 (σ.1 5)) 6 (σ.1 6)) 23 (σ.1 23)) 29 (σ.1 29)) 27 (σ.2.2.1 27)) 32 (σ.1 32)) 30 (σ.2.2.1 30)) 31 (σ.1 31)) 24 (σ.2.2.1 24)) 26 (σ.2.2.1 26))) := hD
  have loop : ∀ (fu : Nat) (mo : Int32) (a : Int32) (en : Int32) (bd : Int32) (bp : Int32) (np : Int32) (cd : Int32) (fc : Nat → Int32) (op : Int32) (fw : Nat → Int32) (ws : Int32) (fh : Nat → Int32) (fn : Nat → Int32) (H : Heap) (locs : List Loc) (ls : Array Slot), (0 ≤ mo.toInt) → (mo.toInt ≤ 1) → (bd.toInt = 0) → ((σ.1 2).toInt + 1 ≤ a.toInt + mo.toInt) → ((σ.1 2).toInt ≤ a.toInt) → (a.toInt ≤ (σ.1 3).toInt) → (0 ≤ op.toInt ∧ op.toInt ≤ 8 ∧ 0 ≤ ws.toInt ∧ (σ.1 29).toInt ≤ cd.toInt) → (cd.toInt + ws.toInt - a.toInt ≤ (σ.1 29).toInt + (σ.1 31).toInt - (σ.1 2).toInt) → (∀ k : Nat, k ≠ 4 → fh k = σ.2.2.1 24 k) → ((σ.2.2.1 24 4).toInt ≤ (fh 4).toInt ∧ (fh 4).toInt - a.toInt ≤ (σ.2.2.1 24 4).toInt - (σ.1 2).toInt) → (XE (mo.toInt = 1) (ES (σ.2.2.1 27) fc (σ.2.2.1 30) fw ((σ.1 29).toInt.toNat) (cd.toInt.toNat) ((σ.1 31).toInt.toNat) (ws.toInt.toNat) 0 (1000 + (fh 4).toInt) op.toInt ((σ.1 32).toInt - (oc (σ.2.2.1 30) (σ.1 31).toInt.toNat : Int))) ∧ XE (mo.toInt = 0) (ES (σ.2.2.1 27) fc (σ.2.2.1 30) fw ((σ.1 29).toInt.toNat) (cd.toInt.toNat) ((σ.1 31).toInt.toNat) (ws.toInt.toNat) 1 (1000 + (fh 4).toInt) op.toInt ((σ.1 32).toInt - (oc (σ.2.2.1 30) (σ.1 31).toInt.toNat : Int)) ∧ ∀ k : Nat, (σ.1 31).toInt.toNat ≤ k → k < ws.toInt.toNat → ¬ (20 ≤ (fw k).toInt ∧ (fw k).toInt < 30))) → (bI fn 0 9999) → (2 * ((σ.1 3).toInt - a.toInt) + mo.toInt < (fu : Int)) → va_P D vwCl (mwd y ad zw (tI (tI (sI (tI (sI (tI (sI (sI (sI (sI (sI (sI (sI σ 40 (σ.1 31)) 2 a) 4 en) 5 bd) 6 bp) 23 np) 29 cd) 27 fc) 32 op) 30 fw) 31 ws) 24 fh) 26 fn)) H → va_D A (mwd y ad zw (tI (tI (sI (tI (sI (tI (sI (sI (sI (sI (sI (sI (sI σ 40 (σ.1 31)) 2 a) 4 en) 5 bd) 6 bp) 23 np) 29 cd) 27 fc) 32 op) 30 fw) 31 ws) 24 fh) 26 fn)) → va_S A s.heap H locs → lv_has ls 3 [(2, .int mo), (1, .int (σ.1 40)), (0, .ref (ad 1))] → W p l e ({ frames := 7, cells := 0, slots := 0, locals := 154 } : Room) s m ([.ref (ad 1)] : List Value).toArray below meth c H locs 0 0 Q (F0 m 15 ls []) := by
    intro fu
    induction fu with
    | zero =>
      intro mo a en bd bp np cd fc op fw ws fh fn H locs ls hmo0 hmo1 hbd hA0 hA2 hA1 hO hpot hh hh4 hE hfn hm
      exact absurd hm (by omega)
    | succ fu ih_loop =>
      intro mo a en bd bp np cd fc op fw ws fh fn H locs ls hmo0 hmo1 hbd hA0 hA2 hA1 hO hpot hh hh4 hE hfn hm hP hD hS hl
      have l10 : (1 : Int32).toInt = 1 := rfl
      have l00 : (0 : Int32).toInt = 0 := rfl
      refine lv_iload_n hx hb dX12_sums_15 rfl (lv_at hl 0 rfl) ?_
      refine lv_if_eq (tgt := 53) hx hb dX12_sums_16 (by decide) (fun c_1 => ?_) (fun c_1 => ?_)
      · have kc_1 : mo.toInt = 0 := by have h9 := c_1; simp only [ge_iff_le, gt_iff_lt, x_lt, x_le, x_eq, ne_eq, Int32.not_lt, Int32.not_le] at h9; simp only [Int32.reduceToInt] at h9; omega
        obtain ⟨hE1, hN1⟩ := hE.2 (by omega)
        have hE3 := hE1.1.2.1
        have hP : va_P D vwCl (mwd y ad zw (sI (tI (sI (tI (tI (tI (sI (sI (sI (sI (sI (sI (sI σ 40 (σ.1 31)) 2 a) 4 en) 5 bd) 6 bp) 23 np) 32 op) 30 fw) 24 fh) 26 fn) 29 cd) 27 fc) 31 ws)) H := hP
        have hD : va_D A (mwd y ad zw (sI (tI (sI (tI (tI (tI (sI (sI (sI (sI (sI (sI (sI σ 40 (σ.1 31)) 2 a) 4 en) 5 bd) 6 bp) 23 np) 32 op) 30 fw) 24 fh) 26 fn) 29 cd) 27 fc) 31 ws)) := hD
        have loop2 : ∀ (fu : Nat) (cd2 : Int32) (fc2 : Nat → Int32) (ws2 : Int32) (H : Heap) (locs : List Loc) (ls : Array Slot), ((σ.1 31).toInt ≤ ws2.toInt) → ((σ.1 29).toInt ≤ cd2.toInt) → (cd2.toInt + ws2.toInt = cd.toInt + ws.toInt) → (ES (σ.2.2.1 27) fc2 (σ.2.2.1 30) fw ((σ.1 29).toInt.toNat) (cd2.toInt.toNat) ((σ.1 31).toInt.toNat) (ws2.toInt.toNat) 1 (1000 + (fh 4).toInt) op.toInt ((σ.1 32).toInt - (oc (σ.2.2.1 30) (σ.1 31).toInt.toNat : Int))) → (∀ k : Nat, (σ.1 31).toInt.toNat ≤ k → k < ws2.toInt.toNat → ¬ (20 ≤ (fw k).toInt ∧ (fw k).toInt < 30)) → (ws2.toInt < (fu : Int)) → va_P D vwCl (mwd y ad zw (sI (tI (sI (tI (tI (tI (sI (sI (sI (sI (sI (sI (sI σ 40 (σ.1 31)) 2 a) 4 en) 5 bd) 6 bp) 23 np) 32 op) 30 fw) 24 fh) 26 fn) 29 cd2) 27 fc2) 31 ws2)) H → va_D A (mwd y ad zw (sI (tI (sI (tI (tI (tI (sI (sI (sI (sI (sI (sI (sI σ 40 (σ.1 31)) 2 a) 4 en) 5 bd) 6 bp) 23 np) 32 op) 30 fw) 24 fh) 26 fn) 29 cd2) 27 fc2) 31 ws2)) → va_S A s.heap H locs → lv_has ls 3 [(1, .int (σ.1 40)), (0, .ref (ad 1))] → W p l e ({ frames := 7, cells := 0, slots := 0, locals := 154 } : Room) s m ([.ref (ad 1)] : List Value).toArray below meth c H locs 0 0 Q (F0 m 53 ls []) := by
          intro fu
          induction fu with
          | zero =>
            intro cd2 fc2 ws2 H locs ls hW2 hC2 hp2 hE2 hN2 hm
            exact absurd hm (by omega)
          | succ fu ih_loop2 =>
            intro cd2 fc2 ws2 H locs ls hW2 hC2 hp2 hE2 hN2 hm hP hD hS hl
            refine lv_aload_n hx hb dX12_sums_53 rfl (lv_at hl 1 rfl) ?_
            refine va_get (D := D) (ci := 11) (v := .int bd) (C := RX12) (T := TX12) (N := 85) hx hb hts inX12 hown hK hP 0 mwd_o0 rfl 5 (by decide) fl191 (fun _ h9 => h9) rfl dX12_sums_54 ?_
            refine lv_if_ne (tgt := 78) hx hb dX12_sums_57 (by decide) (fun c_2 => ?_) (fun c_2 => ?_)
            · have kc_2 : bd.toInt ≠ 0 := by have h9 := c_2; simp only [ge_iff_le, gt_iff_lt, x_lt, x_le, x_eq, ne_eq, Int32.not_lt, Int32.not_le] at h9; simp only [Int32.reduceToInt] at h9; omega
              exfalso
              omega
            · have kc_2 : bd.toInt = 0 := by have h9 := c_2; simp only [ge_iff_le, gt_iff_lt, x_lt, x_le, x_eq, ne_eq, Int32.not_lt, Int32.not_le] at h9; simp only [Int32.reduceToInt] at h9; omega
              refine lv_aload_n hx hb dX12_sums_60 rfl (lv_at hl 1 rfl) ?_
              refine va_get (D := D) (ci := 11) (v := .int ws2) (C := RX12) (T := TX12) (N := 85) hx hb hts inX12 hown hK hP 0 mwd_o0 rfl 31 (by decide) fl263 (fun _ h9 => h9) rfl dX12_sums_61 ?_
              refine lv_aload_n hx hb dX12_sums_64 rfl (lv_at hl 1 rfl) ?_
              refine va_get (D := D) (ci := 11) (v := .int (σ.1 31)) (C := RX12) (T := TX12) (N := 85) hx hb hts inX12 hown hK hP 0 mwd_o0 rfl 40 (by decide) fl270 (fun _ h9 => h9) rfl dX12_sums_65 ?_
              refine lv_icmp_le (tgt := 78) hx hb dX12_sums_68 (by decide) (fun c_3 => ?_) (fun c_3 => ?_)
              · have kc_3 : ws2.toInt ≤ (σ.1 31).toInt := by have h9 := c_3; simp only [ge_iff_le, gt_iff_lt, x_lt, x_le, x_eq, ne_eq, Int32.not_lt, Int32.not_le] at h9; omega
                refine lv_aload_n hx hb dX12_sums_78 rfl (lv_at hl 1 rfl) ?_
                refine lv_iload_n hx hb dX12_sums_79 rfl (lv_at hl 0 rfl) ?_
                refine va_put (D := D) (ci := 11) (v := .int (σ.1 40)) (ty := .int) (C := RX12) (T := TX12) (N := 85) hx hb hts inX12 tyX12 tyX12_ok nmX12 hown hK hP hD hS 0 mwd_o0 rfl 40 (by decide) fl270 (fun _ h9 => h9) rfl (by decide +kernel) rfl rfl (Nat.le_of_ble_eq_true rfl) dX12_sums_80 (fun H locs hP hD hS => ?_)
                have hP : va_P D vwCl (mwd y ad zw (sI (sI (tI (sI (tI (tI (tI (sI (sI (sI (sI (sI (sI (sI σ 40 (σ.1 31)) 2 a) 4 en) 5 bd) 6 bp) 23 np) 32 op) 30 fw) 24 fh) 26 fn) 29 cd2) 27 fc2) 31 ws2) 40 (σ.1 40))) H := x_trP hP mwd_p0_40
                have hD : va_D A (mwd y ad zw (sI (sI (tI (sI (tI (tI (tI (sI (sI (sI (sI (sI (sI (sI σ 40 (σ.1 31)) 2 a) 4 en) 5 bd) 6 bp) 23 np) 32 op) 30 fw) 24 fh) 26 fn) 29 cd2) 27 fc2) 31 ws2) 40 (σ.1 40))) := x_trD hD mwd_p0_40
                have hP : va_P D vwCl (mwd y ad zw (sI (tI (tI (sI (tI (sI (tI (sI (sI (sI (sI (sI (sI σ 2 a) 4 en) 5 bd) 6 bp) 23 np) 29 cd2) 27 fc2) 32 op) 30 fw) 31 ws2) 24 fh) 26 fn) 40 (σ.1 40))) H := hP
                have hD : va_D A (mwd y ad zw (sI (tI (tI (sI (tI (sI (tI (sI (sI (sI (sI (sI (sI σ 2 a) 4 en) 5 bd) 6 bp) 23 np) 29 cd2) 27 fc2) 32 op) 30 fw) 31 ws2) 24 fh) 26 fn) 40 (σ.1 40))) := hD
                exact x_vretW (u := (a, en, bd, bp, np, cd2, fc2, op, fw, ws2, fh, fn, (σ.1 40))) hx hb hr hQ (by (try dsimp only); exact ⟨⟨by omega, by omega, by omega, by omega, by omega, by omega, by omega, hh, by omega, by omega, rfl, fun h9 => ⟨by omega, by omega, by omega, by omega, hE2⟩⟩, hfn⟩) hP hD hK hS dX12_sums_83 hlocks
              · have kc_3 : ws2.toInt > (σ.1 31).toInt := by have h9 := c_3; simp only [ge_iff_le, gt_iff_lt, x_lt, x_le, x_eq, ne_eq, Int32.not_lt, Int32.not_le] at h9; omega
                refine lv_aload_n hx hb dX12_sums_71 rfl (lv_at hl 1 rfl) ?_
                refine x_callvW (va_runV (As := []) (rest := []) ⟨hx, hb, hml, hown, hts⟩ (q_drops l D y H.size ad zw (sI (tI (sI (tI (tI (tI (sI (sI (sI (sI (sI (sI (sI σ 40 (σ.1 31)) 2 a) 4 en) 5 bd) 6 bp) 23 np) 32 op) 30 fw) 24 fh) 26 fn) 29 cd2) 27 fc2) 31 ws2) (show 1 ≤ (ws2).toInt from by first | omega | decide) (show (ws2).toInt ≤ 800 from by first | omega | decide) (show 0 ≤ (cd2).toInt from by first | omega | decide) (show (cd2).toInt < 1200 from by first | omega | decide)) (cwV 0 hts g_q_sums_0 rfl rfl rfl (by decide +kernel) ⟨Nat.le_of_ble_eq_true rfl, Nat.le_of_ble_eq_true rfl⟩) (x_preV (q := (RX12, TX12, 85)) hK hP hD (ci := 11) (q0 := 0) rfl mwd_o0) rfl rfl hl.1 rfl (lv_room (Nat.le_of_ble_eq_true rfl)) dX12_sums_72 ⟨Nat.le_of_ble_eq_true rfl, Nat.le_of_ble_eq_true rfl⟩) hP hD hS hA (fun u H locs hw hP hD hS => ?_)
                obtain ⟨n_4, n_5, f_6⟩ := u
                try dsimp only at hw
                have hP : va_P D vwCl (mwd y ad zw (tI (sI (sI (sI (tI (sI (tI (tI (tI (sI (sI (sI (sI (sI (sI (sI σ 40 (σ.1 31)) 2 a) 4 en) 5 bd) 6 bp) 23 np) 32 op) 30 fw) 24 fh) 26 fn) 29 cd2) 27 fc2) 31 ws2) 31 n_4) 29 n_5) 27 f_6)) H := hP
                have hD : va_D A (mwd y ad zw (tI (sI (sI (sI (tI (sI (tI (tI (tI (sI (sI (sI (sI (sI (sI (sI σ 40 (σ.1 31)) 2 a) 4 en) 5 bd) 6 bp) 23 np) 32 op) 30 fw) 24 fh) 26 fn) 29 cd2) 27 fc2) 31 ws2) 31 n_4) 29 n_5) 27 f_6)) := hD
                replace hw : n_4.toInt = (ws2).toInt - 1 ∧ n_5.toInt = (cd2).toInt + 1 ∧ f_6 = upd (fc2) (cd2).toInt.toNat ((fw) ((ws2).toInt.toNat - 1)) := hw
                refine lv_goto (tgt := 53) hx hb dX12_sums_75 (by decide) ?_
                have hP : va_P D vwCl (mwd y ad zw (sI (tI (sI (tI (tI (tI (sI (sI (sI (sI (sI (sI (sI σ 40 (σ.1 31)) 2 a) 4 en) 5 bd) 6 bp) 23 np) 32 op) 30 fw) 24 fh) 26 fn) 29 n_5) 27 f_6) 31 n_4)) H := hP
                have hD : va_D A (mwd y ad zw (sI (tI (sI (tI (tI (tI (sI (sI (sI (sI (sI (sI (sI σ 40 (σ.1 31)) 2 a) 4 en) 5 bd) 6 bp) 23 np) 32 op) 30 fw) 24 fh) 26 fn) 29 n_5) 27 f_6) 31 n_4)) := hD
                exact ih_loop2 n_5 f_6 n_4 H locs ls (by omega) (by omega) (by omega) (by obtain ⟨h7, h6, h5⟩ := hw; rw [h5, show n_5.toInt.toNat = cd2.toInt.toNat + 1 by omega, show n_4.toInt.toNat = ws2.toInt.toNat - 1 by omega]; exact ES_drop hE2 (by omega) ((hE2.1.2.2.1 (ws2.toInt.toNat - 1) (by omega) (by omega)).resolve_right (hN2 _ (by omega) (by omega))) (by omega)) (fun k h8 h9 => hN2 k h8 (by omega)) (by omega) hP hD hS (lv_sub hl [0, 1] rfl)
        exact loop2 801 cd fc ws H locs ls (by omega) (by omega) (by omega) hE1 hN1 (by omega) hP hD hS (lv_sub hl [1, 2] rfl)
      · have kc_1 : mo.toInt ≠ 0 := by have h9 := c_1; simp only [ge_iff_le, gt_iff_lt, x_lt, x_le, x_eq, ne_eq, Int32.not_lt, Int32.not_le] at h9; simp only [Int32.reduceToInt] at h9; omega
        refine lv_aload_n hx hb dX12_sums_19 rfl (lv_at hl 2 rfl) ?_
        refine va_get (D := D) (ci := 11) (v := .int bd) (C := RX12) (T := TX12) (N := 85) hx hb hts inX12 hown hK hP 0 mwd_o0 rfl 5 (by decide) fl191 (fun _ h9 => h9) rfl dX12_sums_20 ?_
        refine lv_if_ne (tgt := 53) hx hb dX12_sums_23 (by decide) (fun c_7 => ?_) (fun c_7 => ?_)
        · have kc_7 : bd.toInt ≠ 0 := by have h9 := c_7; simp only [ge_iff_le, gt_iff_lt, x_lt, x_le, x_eq, ne_eq, Int32.not_lt, Int32.not_le] at h9; simp only [Int32.reduceToInt] at h9; omega
          exfalso
          omega
        · have kc_7 : bd.toInt = 0 := by have h9 := c_7; simp only [ge_iff_le, gt_iff_lt, x_lt, x_le, x_eq, ne_eq, Int32.not_lt, Int32.not_le] at h9; simp only [Int32.reduceToInt] at h9; omega
          refine lv_aload_n hx hb dX12_sums_26 rfl (lv_at hl 2 rfl) ?_
          have hes0 := hE.1 (by omega)
          refine x_callvW (va_runV (As := []) (rest := []) ⟨hx, hb, hml, hown, hts⟩ (q_onePart l D y H.size ad zw (tI (tI (sI (tI (sI (tI (sI (sI (sI (sI (sI (sI (sI σ 40 (σ.1 31)) 2 a) 4 en) 5 bd) 6 bp) 23 np) 29 cd) 27 fc) 32 op) 30 fw) 31 ws) 24 fh) 26 fn) (σ.2.2.1 27) (σ.2.2.1 30) ((σ.1 29).toInt.toNat) ((σ.1 31).toInt.toNat) ((σ.1 32).toInt - (oc (σ.2.2.1 30) (σ.1 31).toInt.toNat : Int)) (show 0 ≤ (a).toInt from by first | omega | decide) (show (a).toInt ≤ ((σ.1 3)).toInt from by first | omega | decide) (show ((σ.1 3)).toInt ≤ 700 from by first | omega | decide) (show (bd).toInt = 0 from by first | omega | decide) (show 0 ≤ ((σ.1 33)).toInt from by first | omega | decide) (show ((σ.1 33)).toInt ≤ 24 from by first | omega | decide) (show 0 ≤ (op).toInt from by first | omega | decide) (show (op).toInt ≤ 8 from by first | omega | decide) (show 0 ≤ (ws).toInt from by first | omega | decide) (show 0 ≤ (cd).toInt from by first | omega | decide) (show (cd).toInt + (ws).toInt ≤ (a).toInt + 20 from by first | omega | decide) (show 0 ≤ (fh 4).toInt from by omega) (show (fh 4).toInt ≤ a.toInt + 20 from by omega) hes0 hB35 hfn) (cwV 0 hts g_q_sums_1 rfl rfl rfl (by decide +kernel) ⟨Nat.le_of_ble_eq_true rfl, Nat.le_of_ble_eq_true rfl⟩) (x_preV (q := (RX12, TX12, 85)) hK hP hD (ci := 11) (q0 := 0) rfl mwd_o0) rfl rfl hl.1 rfl (lv_room (Nat.le_of_ble_eq_true rfl)) dX12_sums_27 ⟨Nat.le_of_ble_eq_true rfl, Nat.le_of_ble_eq_true rfl⟩) hP hD hS hA (fun u H locs hw hP hD hS => ?_)
          obtain ⟨n_8, n_9, n_10, n_11, n_12, n_13, f_14, n_15, f_16, n_17, f_18, f_19⟩ := u
          try dsimp only at hw
          have hP : va_P D vwCl (mwd y ad zw (tI (tI (sI (tI (sI (tI (sI (sI (sI (sI (sI (sI (tI (tI (sI (tI (sI (tI (sI (sI (sI (sI (sI (sI (sI σ 40 (σ.1 31)) 2 a) 4 en) 5 bd) 6 bp) 23 np) 29 cd) 27 fc) 32 op) 30 fw) 31 ws) 24 fh) 26 fn) 2 n_8) 4 n_9) 5 n_10) 6 n_11) 23 n_12) 29 n_13) 27 f_14) 32 n_15) 30 f_16) 31 n_17) 24 f_18) 26 f_19)) H := hP
          have hD : va_D A (mwd y ad zw (tI (tI (sI (tI (sI (tI (sI (sI (sI (sI (sI (sI (tI (tI (sI (tI (sI (tI (sI (sI (sI (sI (sI (sI (sI σ 40 (σ.1 31)) 2 a) 4 en) 5 bd) 6 bp) 23 np) 29 cd) 27 fc) 32 op) 30 fw) 31 ws) 24 fh) 26 fn) 2 n_8) 4 n_9) 5 n_10) 6 n_11) 23 n_12) 29 n_13) 27 f_14) 32 n_15) 30 f_16) 31 n_17) 24 f_18) 26 f_19)) := hD
          replace hw : ((a).toInt ≤ n_8.toInt ∧ n_8.toInt ≤ ((σ.1 3)).toInt ∧ 0 ≤ n_15.toInt ∧ n_15.toInt ≤ 8 ∧ 0 ≤ n_17.toInt ∧ (cd).toInt ≤ n_13.toInt ∧ n_13.toInt + n_17.toInt - n_8.toInt ≤ (cd).toInt + (ws).toInt - (a).toInt + 1 ∧ (∀ k : Nat, k ≠ 4 → f_18 k = fh k) ∧ (fh 4).toInt ≤ (f_18 4).toInt ∧ (f_18 4).toInt - n_8.toInt ≤ (fh 4).toInt - (a).toInt + 1 ∧ (n_10.toInt = 0 → (a).toInt + 1 ≤ n_8.toInt ∧ n_13.toInt + n_17.toInt - n_8.toInt ≤ (cd).toInt + (ws).toInt - (a).toInt ∧ (f_18 4).toInt - n_8.toInt ≤ (fh 4).toInt - (a).toInt ∧ ES (σ.2.2.1 27) f_14 (σ.2.2.1 30) f_16 ((σ.1 29).toInt.toNat) n_13.toInt.toNat ((σ.1 31).toInt.toNat) n_17.toInt.toNat 1 (1000 + (f_18 4).toInt) n_15.toInt ((σ.1 32).toInt - (oc (σ.2.2.1 30) (σ.1 31).toInt.toNat : Int)))) ∧ bI f_19 0 9999 := hw
          obtain ⟨hw, hg_20⟩ := hw
          obtain ⟨hp1, hp2, hp3, hp4, hp5, hp6, hp7, hp8, hp9, hp10, hpi⟩ := hw
          have hha : ∀ k : Nat, k ≠ 4 → f_18 k = σ.2.2.1 24 k := fun k h9 => (hp8 k h9).trans (hh k h9)
          rcases Classical.em (n_10.toInt = 0) with hbz | hbz
          · obtain ⟨hg1, hg2, hg3, hg4⟩ := hpi hbz
            clear hpi
            refine lv_aload_n hx hb dX12_sums_30 rfl (lv_at hl 2 rfl) ?_
            refine va_get (D := D) (ci := 11) (v := .int n_10) (C := RX12) (T := TX12) (N := 85) hx hb hts inX12 hown hK hP 0 mwd_o0 rfl 5 (by decide) fl191 (fun _ h9 => h9) rfl dX12_sums_31 ?_
            refine lv_if_ne (tgt := 48) hx hb dX12_sums_34 (by decide) (fun c_21 => ?_) (fun c_21 => ?_)
            · have kc_21 : n_10.toInt ≠ 0 := by have h9 := c_21; simp only [ge_iff_le, gt_iff_lt, x_lt, x_le, x_eq, ne_eq, Int32.not_lt, Int32.not_le] at h9; simp only [Int32.reduceToInt] at h9; omega
              exfalso
              omega
            · have kc_21 : n_10.toInt = 0 := by have h9 := c_21; simp only [ge_iff_le, gt_iff_lt, x_lt, x_le, x_eq, ne_eq, Int32.not_lt, Int32.not_le] at h9; simp only [Int32.reduceToInt] at h9; omega
              refine lv_aload_n hx hb dX12_sums_37 rfl (lv_at hl 2 rfl) ?_
              refine x_calliW (va_runV (As := []) (rest := []) ⟨hx, hb, hml, hown, hts⟩ (q_goesOn l D y H.size ad zw (tI (tI (sI (tI (sI (tI (sI (sI (sI (sI (sI (sI (tI (tI (sI (tI (sI (tI (sI (sI (sI (sI (sI (sI (sI σ 40 (σ.1 31)) 2 a) 4 en) 5 bd) 6 bp) 23 np) 29 cd) 27 fc) 32 op) 30 fw) 31 ws) 24 fh) 26 fn) 2 n_8) 4 n_9) 5 n_10) 6 n_11) 23 n_12) 29 n_13) 27 f_14) 32 n_15) 30 f_16) 31 n_17) 24 f_18) 26 f_19) (σ.2.2.1 27) (σ.2.2.1 30) ((σ.1 29).toInt.toNat) ((σ.1 31).toInt.toNat) (1000 + (f_18 4).toInt) ((σ.1 32).toInt - (oc (σ.2.2.1 30) (σ.1 31).toInt.toNat : Int)) (show 0 ≤ (n_8).toInt from by first | omega | decide) (show (n_8).toInt ≤ ((σ.1 3)).toInt from by first | omega | decide) (show ((σ.1 3)).toInt ≤ 700 from by first | omega | decide) (show (n_10).toInt = 0 from by first | omega | decide) (show 0 ≤ (n_15).toInt from by first | omega | decide) (show (n_15).toInt ≤ 8 from by first | omega | decide) (show 0 ≤ (n_17).toInt from by first | omega | decide) (show 0 ≤ (n_13).toInt from by first | omega | decide) (show (n_13).toInt + (n_17).toInt ≤ (n_8).toInt + 20 from by first | omega | decide) (show ((σ.1 31)).toInt = (((σ.1 31).toInt.toNat) : Int) from by first | omega | decide) hlo (by first | omega | decide) (by first | omega | decide) hg4) (cwV 0 hts g_q_sums_2 rfl rfl rfl (by decide +kernel) ⟨Nat.le_of_ble_eq_true rfl, Nat.le_of_ble_eq_true rfl⟩) (x_preV (q := (RX12, TX12, 85)) hK hP hD (ci := 11) (q0 := 0) rfl mwd_o0) rfl rfl hl.1 rfl (lv_room (Nat.le_of_ble_eq_true rfl)) dX12_sums_38 ⟨Nat.le_of_ble_eq_true rfl, Nat.le_of_ble_eq_true rfl⟩) hP hD hS hA (fun r_22 u H locs hw hP hD hS => ?_)
              obtain ⟨n_23, n_24, n_25, n_26, f_27, n_28, f_29, n_30⟩ := u
              try dsimp only at hw
              have hP : va_P D vwCl (mwd y ad zw (sI (tI (sI (tI (sI (sI (sI (sI (tI (tI (sI (tI (sI (tI (sI (sI (sI (sI (sI (sI (tI (tI (sI (tI (sI (tI (sI (sI (sI (sI (sI (sI (sI σ 40 (σ.1 31)) 2 a) 4 en) 5 bd) 6 bp) 23 np) 29 cd) 27 fc) 32 op) 30 fw) 31 ws) 24 fh) 26 fn) 2 n_8) 4 n_9) 5 n_10) 6 n_11) 23 n_12) 29 n_13) 27 f_14) 32 n_15) 30 f_16) 31 n_17) 24 f_18) 26 f_19) 2 n_23) 5 n_24) 6 n_25) 29 n_26) 27 f_27) 32 n_28) 30 f_29) 31 n_30)) H := hP
              have hD : va_D A (mwd y ad zw (sI (tI (sI (tI (sI (sI (sI (sI (tI (tI (sI (tI (sI (tI (sI (sI (sI (sI (sI (sI (tI (tI (sI (tI (sI (tI (sI (sI (sI (sI (sI (sI (sI σ 40 (σ.1 31)) 2 a) 4 en) 5 bd) 6 bp) 23 np) 29 cd) 27 fc) 32 op) 30 fw) 31 ws) 24 fh) 26 fn) 2 n_8) 4 n_9) 5 n_10) 6 n_11) 23 n_12) 29 n_13) 27 f_14) 32 n_15) 30 f_16) 31 n_17) 24 f_18) 26 f_19) 2 n_23) 5 n_24) 6 n_25) 29 n_26) 27 f_27) 32 n_28) 30 f_29) 31 n_30)) := hD
              replace hw : (n_8).toInt ≤ n_23.toInt ∧ n_23.toInt ≤ ((σ.1 3)).toInt ∧ 0 ≤ n_28.toInt ∧ n_28.toInt ≤ 8 ∧ 0 ≤ n_30.toInt ∧ (n_13).toInt ≤ n_26.toInt ∧ n_26.toInt + n_30.toInt - n_23.toInt ≤ ((n_13).toInt + (n_17).toInt - (n_8).toInt) ∧ (r_22.toInt = 0 ∨ r_22.toInt = 1) ∧ (n_24.toInt = 0 → XE (r_22.toInt = 1) ((n_8).toInt + 1 ≤ n_23.toInt ∧ ES (σ.2.2.1 27) f_27 (σ.2.2.1 30) f_29 ((σ.1 29).toInt.toNat) n_26.toInt.toNat ((σ.1 31).toInt.toNat) n_30.toInt.toNat 0 (1000 + (f_18 4).toInt) n_28.toInt ((σ.1 32).toInt - (oc (σ.2.2.1 30) (σ.1 31).toInt.toNat : Int))) ∧ XE (r_22.toInt = 0) (ES (σ.2.2.1 27) f_27 (σ.2.2.1 30) f_29 ((σ.1 29).toInt.toNat) n_26.toInt.toNat ((σ.1 31).toInt.toNat) n_30.toInt.toNat 1 (1000 + (f_18 4).toInt) n_28.toInt ((σ.1 32).toInt - (oc (σ.2.2.1 30) (σ.1 31).toInt.toNat : Int)) ∧ ∀ k : Nat, ((σ.1 31).toInt.toNat) ≤ k → k < n_30.toInt.toNat → ¬ (20 ≤ (f_29 k).toInt ∧ (f_29 k).toInt < 30))) := hw
              obtain ⟨hr1, hr2, hr3, hr4, hr5, hr6, hr7, hr8, hri⟩ := hw
              rcases Classical.em (n_24.toInt = 0) with hbz2 | hbz2
              · rcases hr8 with hr8 | hr8
                · have hes9 := (hri hbz2).2 hr8
                  clear hri
                  refine lv_if_eq (tgt := 48) hx hb dX12_sums_41 (by decide) (fun c_31 => ?_) (fun c_31 => ?_)
                  · have kc_31 : r_22.toInt = 0 := by have h9 := c_31; simp only [ge_iff_le, gt_iff_lt, x_lt, x_le, x_eq, ne_eq, Int32.not_lt, Int32.not_le] at h9; simp only [Int32.reduceToInt] at h9; omega
                    refine lv_iconst (v := 0) hx hb dX12_sums_48 (by decide) ?_
                    refine lv_istore_n (lv' := [(2, .int 0), (1, .int (σ.1 40)), (0, .ref (ad 1))]) hx hb dX12_sums_49 rfl hl (by decide) rfl (fun ls hl => ?_)
                    refine lv_goto (tgt := 15) hx hb dX12_sums_50 (by decide) ?_
                    have l10 : (1 : Int32).toInt = 1 := rfl
                    have l00 : (0 : Int32).toInt = 0 := rfl
                    have hP : va_P D vwCl (mwd y ad zw (tI (tI (sI (tI (sI (tI (sI (sI (sI (sI (sI (sI (sI σ 40 (σ.1 31)) 2 n_23) 4 n_9) 5 n_24) 6 n_25) 23 n_12) 29 n_26) 27 f_27) 32 n_28) 30 f_29) 31 n_30) 24 f_18) 26 f_19)) H := hP
                    have hD : va_D A (mwd y ad zw (tI (tI (sI (tI (sI (tI (sI (sI (sI (sI (sI (sI (sI σ 40 (σ.1 31)) 2 n_23) 4 n_9) 5 n_24) 6 n_25) 23 n_12) 29 n_26) 27 f_27) 32 n_28) 30 f_29) 31 n_30) 24 f_18) 26 f_19)) := hD
                    exact ih_loop 0 n_23 n_9 n_24 n_25 n_12 n_26 f_27 n_28 f_29 n_30 f_18 f_19 H locs ls (by omega) (by omega) (by omega) (by omega) (by omega) (by omega) ⟨by omega, by omega, by omega, by omega⟩ (by omega) hha ⟨by omega, by omega⟩ ⟨fun h8 => absurd h8 (by decide), fun _ => hes9⟩ hg_20 (by omega) hP hD hS (lv_sub hl [0, 1, 2] rfl)
                  · have kc_31 : r_22.toInt ≠ 0 := by have h9 := c_31; simp only [ge_iff_le, gt_iff_lt, x_lt, x_le, x_eq, ne_eq, Int32.not_lt, Int32.not_le] at h9; simp only [Int32.reduceToInt] at h9; omega
                    exfalso
                    omega
                · obtain ⟨hr9, hes9⟩ := (hri hbz2).1 hr8
                  clear hri
                  refine lv_if_eq (tgt := 48) hx hb dX12_sums_41 (by decide) (fun c_32 => ?_) (fun c_32 => ?_)
                  · have kc_32 : r_22.toInt = 0 := by have h9 := c_32; simp only [ge_iff_le, gt_iff_lt, x_lt, x_le, x_eq, ne_eq, Int32.not_lt, Int32.not_le] at h9; simp only [Int32.reduceToInt] at h9; omega
                    exfalso
                    omega
                  · have kc_32 : r_22.toInt ≠ 0 := by have h9 := c_32; simp only [ge_iff_le, gt_iff_lt, x_lt, x_le, x_eq, ne_eq, Int32.not_lt, Int32.not_le] at h9; simp only [Int32.reduceToInt] at h9; omega
                    refine lv_iconst (v := 1) hx hb dX12_sums_44 (by decide) ?_
                    refine lv_goto (tgt := 49) hx hb dX12_sums_45 (by decide) ?_
                    refine lv_istore_n (lv' := [(2, .int 1), (1, .int (σ.1 40)), (0, .ref (ad 1))]) hx hb dX12_sums_49 rfl hl (by decide) rfl (fun ls hl => ?_)
                    refine lv_goto (tgt := 15) hx hb dX12_sums_50 (by decide) ?_
                    have l10 : (1 : Int32).toInt = 1 := rfl
                    have l00 : (0 : Int32).toInt = 0 := rfl
                    have hP : va_P D vwCl (mwd y ad zw (tI (tI (sI (tI (sI (tI (sI (sI (sI (sI (sI (sI (sI σ 40 (σ.1 31)) 2 n_23) 4 n_9) 5 n_24) 6 n_25) 23 n_12) 29 n_26) 27 f_27) 32 n_28) 30 f_29) 31 n_30) 24 f_18) 26 f_19)) H := hP
                    have hD : va_D A (mwd y ad zw (tI (tI (sI (tI (sI (tI (sI (sI (sI (sI (sI (sI (sI σ 40 (σ.1 31)) 2 n_23) 4 n_9) 5 n_24) 6 n_25) 23 n_12) 29 n_26) 27 f_27) 32 n_28) 30 f_29) 31 n_30) 24 f_18) 26 f_19)) := hD
                    exact ih_loop 1 n_23 n_9 n_24 n_25 n_12 n_26 f_27 n_28 f_29 n_30 f_18 f_19 H locs ls (by omega) (by omega) (by omega) (by omega) (by omega) (by omega) ⟨by omega, by omega, by omega, by omega⟩ (by omega) hha ⟨by omega, by omega⟩ ⟨fun _ => hes9, fun h8 => absurd h8 (by decide)⟩ hg_20 (by omega) hP hD hS (lv_sub hl [0, 1, 2] rfl)
              · clear hri
                refine lv_if_eq (tgt := 48) hx hb dX12_sums_41 (by decide) (fun c_33 => ?_) (fun c_33 => ?_)
                · have kc_33 : r_22.toInt = 0 := by have h9 := c_33; simp only [ge_iff_le, gt_iff_lt, x_lt, x_le, x_eq, ne_eq, Int32.not_lt, Int32.not_le] at h9; simp only [Int32.reduceToInt] at h9; omega
                  refine lv_iconst (v := 0) hx hb dX12_sums_48 (by decide) ?_
                  refine lv_istore_n (lv' := [(2, .int 0), (1, .int (σ.1 40)), (0, .ref (ad 1))]) hx hb dX12_sums_49 rfl hl (by decide) rfl (fun ls hl => ?_)
                  refine lv_goto (tgt := 15) hx hb dX12_sums_50 (by decide) ?_
                  refine lv_iload_n hx hb dX12_sums_15 rfl (lv_at hl 0 rfl) ?_
                  refine lv_if_eq (tgt := 53) hx hb dX12_sums_16 (by decide) (fun c_34 => ?_) (fun c_34 => ?_)
                  · refine lv_aload_n hx hb dX12_sums_53 rfl (lv_at hl 2 rfl) ?_
                    refine va_get (D := D) (ci := 11) (v := .int n_24) (C := RX12) (T := TX12) (N := 85) hx hb hts inX12 hown hK hP 0 mwd_o0 rfl 5 (by decide) fl191 (fun _ h9 => h9) rfl dX12_sums_54 ?_
                    refine lv_if_ne (tgt := 78) hx hb dX12_sums_57 (by decide) (fun c_35 => ?_) (fun c_35 => ?_)
                    · have kc_35 : n_24.toInt ≠ 0 := by have h9 := c_35; simp only [ge_iff_le, gt_iff_lt, x_lt, x_le, x_eq, ne_eq, Int32.not_lt, Int32.not_le] at h9; simp only [Int32.reduceToInt] at h9; omega
                      refine lv_aload_n hx hb dX12_sums_78 rfl (lv_at hl 2 rfl) ?_
                      refine lv_iload_n hx hb dX12_sums_79 rfl (lv_at hl 1 rfl) ?_
                      refine va_put (D := D) (ci := 11) (v := .int (σ.1 40)) (ty := .int) (C := RX12) (T := TX12) (N := 85) hx hb hts inX12 tyX12 tyX12_ok nmX12 hown hK hP hD hS 0 mwd_o0 rfl 40 (by decide) fl270 (fun _ h9 => h9) rfl (by decide +kernel) rfl rfl (Nat.le_of_ble_eq_true rfl) dX12_sums_80 (fun H locs hP hD hS => ?_)
                      have hP : va_P D vwCl (mwd y ad zw (sI (sI (tI (sI (tI (sI (sI (sI (sI (tI (tI (sI (tI (sI (tI (sI (sI (sI (sI (sI (sI (tI (tI (sI (tI (sI (tI (sI (sI (sI (sI (sI (sI (sI σ 40 (σ.1 31)) 2 a) 4 en) 5 bd) 6 bp) 23 np) 29 cd) 27 fc) 32 op) 30 fw) 31 ws) 24 fh) 26 fn) 2 n_8) 4 n_9) 5 n_10) 6 n_11) 23 n_12) 29 n_13) 27 f_14) 32 n_15) 30 f_16) 31 n_17) 24 f_18) 26 f_19) 2 n_23) 5 n_24) 6 n_25) 29 n_26) 27 f_27) 32 n_28) 30 f_29) 31 n_30) 40 (σ.1 40))) H := x_trP hP mwd_p0_40
                      have hD : va_D A (mwd y ad zw (sI (sI (tI (sI (tI (sI (sI (sI (sI (tI (tI (sI (tI (sI (tI (sI (sI (sI (sI (sI (sI (tI (tI (sI (tI (sI (tI (sI (sI (sI (sI (sI (sI (sI σ 40 (σ.1 31)) 2 a) 4 en) 5 bd) 6 bp) 23 np) 29 cd) 27 fc) 32 op) 30 fw) 31 ws) 24 fh) 26 fn) 2 n_8) 4 n_9) 5 n_10) 6 n_11) 23 n_12) 29 n_13) 27 f_14) 32 n_15) 30 f_16) 31 n_17) 24 f_18) 26 f_19) 2 n_23) 5 n_24) 6 n_25) 29 n_26) 27 f_27) 32 n_28) 30 f_29) 31 n_30) 40 (σ.1 40))) := x_trD hD mwd_p0_40
                      have hP : va_P D vwCl (mwd y ad zw (sI (tI (tI (sI (tI (sI (tI (sI (sI (sI (sI (sI (sI σ 2 n_23) 4 n_9) 5 n_24) 6 n_25) 23 n_12) 29 n_26) 27 f_27) 32 n_28) 30 f_29) 31 n_30) 24 f_18) 26 f_19) 40 (σ.1 40))) H := hP
                      have hD : va_D A (mwd y ad zw (sI (tI (tI (sI (tI (sI (tI (sI (sI (sI (sI (sI (sI σ 2 n_23) 4 n_9) 5 n_24) 6 n_25) 23 n_12) 29 n_26) 27 f_27) 32 n_28) 30 f_29) 31 n_30) 24 f_18) 26 f_19) 40 (σ.1 40))) := hD
                      exact x_vretW (u := (n_23, n_9, n_24, n_25, n_12, n_26, f_27, n_28, f_29, n_30, f_18, f_19, (σ.1 40))) hx hb hr hQ (by (try dsimp only); exact ⟨⟨by omega, by omega, by omega, by omega, by omega, by omega, by omega, hha, by omega, by omega, rfl, fun h9 => absurd h9 (by omega)⟩, hg_20⟩) hP hD hK hS dX12_sums_83 hlocks
                    · have kc_35 : n_24.toInt = 0 := by have h9 := c_35; simp only [ge_iff_le, gt_iff_lt, x_lt, x_le, x_eq, ne_eq, Int32.not_lt, Int32.not_le] at h9; simp only [Int32.reduceToInt] at h9; omega
                      exfalso
                      omega
                  · exact absurd (by decide) c_34
                · have kc_33 : r_22.toInt ≠ 0 := by have h9 := c_33; simp only [ge_iff_le, gt_iff_lt, x_lt, x_le, x_eq, ne_eq, Int32.not_lt, Int32.not_le] at h9; simp only [Int32.reduceToInt] at h9; omega
                  refine lv_iconst (v := 1) hx hb dX12_sums_44 (by decide) ?_
                  refine lv_goto (tgt := 49) hx hb dX12_sums_45 (by decide) ?_
                  refine lv_istore_n (lv' := [(2, .int 1), (1, .int (σ.1 40)), (0, .ref (ad 1))]) hx hb dX12_sums_49 rfl hl (by decide) rfl (fun ls hl => ?_)
                  refine lv_goto (tgt := 15) hx hb dX12_sums_50 (by decide) ?_
                  refine lv_iload_n hx hb dX12_sums_15 rfl (lv_at hl 0 rfl) ?_
                  refine lv_if_eq (tgt := 53) hx hb dX12_sums_16 (by decide) (fun c_36 => ?_) (fun c_36 => ?_)
                  · exact absurd c_36 (by decide)
                  · refine lv_aload_n hx hb dX12_sums_19 rfl (lv_at hl 2 rfl) ?_
                    refine va_get (D := D) (ci := 11) (v := .int n_24) (C := RX12) (T := TX12) (N := 85) hx hb hts inX12 hown hK hP 0 mwd_o0 rfl 5 (by decide) fl191 (fun _ h9 => h9) rfl dX12_sums_20 ?_
                    refine lv_if_ne (tgt := 53) hx hb dX12_sums_23 (by decide) (fun c_37 => ?_) (fun c_37 => ?_)
                    · have kc_37 : n_24.toInt ≠ 0 := by have h9 := c_37; simp only [ge_iff_le, gt_iff_lt, x_lt, x_le, x_eq, ne_eq, Int32.not_lt, Int32.not_le] at h9; simp only [Int32.reduceToInt] at h9; omega
                      refine lv_aload_n hx hb dX12_sums_53 rfl (lv_at hl 2 rfl) ?_
                      refine va_get (D := D) (ci := 11) (v := .int n_24) (C := RX12) (T := TX12) (N := 85) hx hb hts inX12 hown hK hP 0 mwd_o0 rfl 5 (by decide) fl191 (fun _ h9 => h9) rfl dX12_sums_54 ?_
                      refine lv_if_ne (tgt := 78) hx hb dX12_sums_57 (by decide) (fun c_38 => ?_) (fun c_38 => ?_)
                      · have kc_38 : n_24.toInt ≠ 0 := by have h9 := c_38; simp only [ge_iff_le, gt_iff_lt, x_lt, x_le, x_eq, ne_eq, Int32.not_lt, Int32.not_le] at h9; simp only [Int32.reduceToInt] at h9; omega
                        refine lv_aload_n hx hb dX12_sums_78 rfl (lv_at hl 2 rfl) ?_
                        refine lv_iload_n hx hb dX12_sums_79 rfl (lv_at hl 1 rfl) ?_
                        refine va_put (D := D) (ci := 11) (v := .int (σ.1 40)) (ty := .int) (C := RX12) (T := TX12) (N := 85) hx hb hts inX12 tyX12 tyX12_ok nmX12 hown hK hP hD hS 0 mwd_o0 rfl 40 (by decide) fl270 (fun _ h9 => h9) rfl (by decide +kernel) rfl rfl (Nat.le_of_ble_eq_true rfl) dX12_sums_80 (fun H locs hP hD hS => ?_)
                        have hP : va_P D vwCl (mwd y ad zw (sI (sI (tI (sI (tI (sI (sI (sI (sI (tI (tI (sI (tI (sI (tI (sI (sI (sI (sI (sI (sI (tI (tI (sI (tI (sI (tI (sI (sI (sI (sI (sI (sI (sI σ 40 (σ.1 31)) 2 a) 4 en) 5 bd) 6 bp) 23 np) 29 cd) 27 fc) 32 op) 30 fw) 31 ws) 24 fh) 26 fn) 2 n_8) 4 n_9) 5 n_10) 6 n_11) 23 n_12) 29 n_13) 27 f_14) 32 n_15) 30 f_16) 31 n_17) 24 f_18) 26 f_19) 2 n_23) 5 n_24) 6 n_25) 29 n_26) 27 f_27) 32 n_28) 30 f_29) 31 n_30) 40 (σ.1 40))) H := x_trP hP mwd_p0_40
                        have hD : va_D A (mwd y ad zw (sI (sI (tI (sI (tI (sI (sI (sI (sI (tI (tI (sI (tI (sI (tI (sI (sI (sI (sI (sI (sI (tI (tI (sI (tI (sI (tI (sI (sI (sI (sI (sI (sI (sI σ 40 (σ.1 31)) 2 a) 4 en) 5 bd) 6 bp) 23 np) 29 cd) 27 fc) 32 op) 30 fw) 31 ws) 24 fh) 26 fn) 2 n_8) 4 n_9) 5 n_10) 6 n_11) 23 n_12) 29 n_13) 27 f_14) 32 n_15) 30 f_16) 31 n_17) 24 f_18) 26 f_19) 2 n_23) 5 n_24) 6 n_25) 29 n_26) 27 f_27) 32 n_28) 30 f_29) 31 n_30) 40 (σ.1 40))) := x_trD hD mwd_p0_40
                        have hP : va_P D vwCl (mwd y ad zw (sI (tI (tI (sI (tI (sI (tI (sI (sI (sI (sI (sI (sI σ 2 n_23) 4 n_9) 5 n_24) 6 n_25) 23 n_12) 29 n_26) 27 f_27) 32 n_28) 30 f_29) 31 n_30) 24 f_18) 26 f_19) 40 (σ.1 40))) H := hP
                        have hD : va_D A (mwd y ad zw (sI (tI (tI (sI (tI (sI (tI (sI (sI (sI (sI (sI (sI σ 2 n_23) 4 n_9) 5 n_24) 6 n_25) 23 n_12) 29 n_26) 27 f_27) 32 n_28) 30 f_29) 31 n_30) 24 f_18) 26 f_19) 40 (σ.1 40))) := hD
                        exact x_vretW (u := (n_23, n_9, n_24, n_25, n_12, n_26, f_27, n_28, f_29, n_30, f_18, f_19, (σ.1 40))) hx hb hr hQ (by (try dsimp only); exact ⟨⟨by omega, by omega, by omega, by omega, by omega, by omega, by omega, hha, by omega, by omega, rfl, fun h9 => absurd h9 (by omega)⟩, hg_20⟩) hP hD hK hS dX12_sums_83 hlocks
                      · have kc_38 : n_24.toInt = 0 := by have h9 := c_38; simp only [ge_iff_le, gt_iff_lt, x_lt, x_le, x_eq, ne_eq, Int32.not_lt, Int32.not_le] at h9; simp only [Int32.reduceToInt] at h9; omega
                        exfalso
                        omega
                    · have kc_37 : n_24.toInt = 0 := by have h9 := c_37; simp only [ge_iff_le, gt_iff_lt, x_lt, x_le, x_eq, ne_eq, Int32.not_lt, Int32.not_le] at h9; simp only [Int32.reduceToInt] at h9; omega
                      exfalso
                      omega
          · clear hpi
            refine lv_aload_n hx hb dX12_sums_30 rfl (lv_at hl 2 rfl) ?_
            refine va_get (D := D) (ci := 11) (v := .int n_10) (C := RX12) (T := TX12) (N := 85) hx hb hts inX12 hown hK hP 0 mwd_o0 rfl 5 (by decide) fl191 (fun _ h9 => h9) rfl dX12_sums_31 ?_
            refine lv_if_ne (tgt := 48) hx hb dX12_sums_34 (by decide) (fun c_39 => ?_) (fun c_39 => ?_)
            · have kc_39 : n_10.toInt ≠ 0 := by have h9 := c_39; simp only [ge_iff_le, gt_iff_lt, x_lt, x_le, x_eq, ne_eq, Int32.not_lt, Int32.not_le] at h9; simp only [Int32.reduceToInt] at h9; omega
              refine lv_iconst (v := 0) hx hb dX12_sums_48 (by decide) ?_
              refine lv_istore_n (lv' := [(2, .int 0), (1, .int (σ.1 40)), (0, .ref (ad 1))]) hx hb dX12_sums_49 rfl hl (by decide) rfl (fun ls hl => ?_)
              refine lv_goto (tgt := 15) hx hb dX12_sums_50 (by decide) ?_
              refine lv_iload_n hx hb dX12_sums_15 rfl (lv_at hl 0 rfl) ?_
              refine lv_if_eq (tgt := 53) hx hb dX12_sums_16 (by decide) (fun c_40 => ?_) (fun c_40 => ?_)
              · refine lv_aload_n hx hb dX12_sums_53 rfl (lv_at hl 2 rfl) ?_
                refine va_get (D := D) (ci := 11) (v := .int n_10) (C := RX12) (T := TX12) (N := 85) hx hb hts inX12 hown hK hP 0 mwd_o0 rfl 5 (by decide) fl191 (fun _ h9 => h9) rfl dX12_sums_54 ?_
                refine lv_if_ne (tgt := 78) hx hb dX12_sums_57 (by decide) (fun c_41 => ?_) (fun c_41 => ?_)
                · have kc_41 : n_10.toInt ≠ 0 := by have h9 := c_41; simp only [ge_iff_le, gt_iff_lt, x_lt, x_le, x_eq, ne_eq, Int32.not_lt, Int32.not_le] at h9; simp only [Int32.reduceToInt] at h9; omega
                  refine lv_aload_n hx hb dX12_sums_78 rfl (lv_at hl 2 rfl) ?_
                  refine lv_iload_n hx hb dX12_sums_79 rfl (lv_at hl 1 rfl) ?_
                  refine va_put (D := D) (ci := 11) (v := .int (σ.1 40)) (ty := .int) (C := RX12) (T := TX12) (N := 85) hx hb hts inX12 tyX12 tyX12_ok nmX12 hown hK hP hD hS 0 mwd_o0 rfl 40 (by decide) fl270 (fun _ h9 => h9) rfl (by decide +kernel) rfl rfl (Nat.le_of_ble_eq_true rfl) dX12_sums_80 (fun H locs hP hD hS => ?_)
                  have hP : va_P D vwCl (mwd y ad zw (sI (tI (tI (sI (tI (sI (tI (sI (sI (sI (sI (sI (sI (tI (tI (sI (tI (sI (tI (sI (sI (sI (sI (sI (sI (sI σ 40 (σ.1 31)) 2 a) 4 en) 5 bd) 6 bp) 23 np) 29 cd) 27 fc) 32 op) 30 fw) 31 ws) 24 fh) 26 fn) 2 n_8) 4 n_9) 5 n_10) 6 n_11) 23 n_12) 29 n_13) 27 f_14) 32 n_15) 30 f_16) 31 n_17) 24 f_18) 26 f_19) 40 (σ.1 40))) H := x_trP hP mwd_p0_40
                  have hD : va_D A (mwd y ad zw (sI (tI (tI (sI (tI (sI (tI (sI (sI (sI (sI (sI (sI (tI (tI (sI (tI (sI (tI (sI (sI (sI (sI (sI (sI (sI σ 40 (σ.1 31)) 2 a) 4 en) 5 bd) 6 bp) 23 np) 29 cd) 27 fc) 32 op) 30 fw) 31 ws) 24 fh) 26 fn) 2 n_8) 4 n_9) 5 n_10) 6 n_11) 23 n_12) 29 n_13) 27 f_14) 32 n_15) 30 f_16) 31 n_17) 24 f_18) 26 f_19) 40 (σ.1 40))) := x_trD hD mwd_p0_40
                  have hP : va_P D vwCl (mwd y ad zw (sI (tI (tI (sI (tI (sI (tI (sI (sI (sI (sI (sI (sI σ 2 n_8) 4 n_9) 5 n_10) 6 n_11) 23 n_12) 29 n_13) 27 f_14) 32 n_15) 30 f_16) 31 n_17) 24 f_18) 26 f_19) 40 (σ.1 40))) H := hP
                  have hD : va_D A (mwd y ad zw (sI (tI (tI (sI (tI (sI (tI (sI (sI (sI (sI (sI (sI σ 2 n_8) 4 n_9) 5 n_10) 6 n_11) 23 n_12) 29 n_13) 27 f_14) 32 n_15) 30 f_16) 31 n_17) 24 f_18) 26 f_19) 40 (σ.1 40))) := hD
                  exact x_vretW (u := (n_8, n_9, n_10, n_11, n_12, n_13, f_14, n_15, f_16, n_17, f_18, f_19, (σ.1 40))) hx hb hr hQ (by (try dsimp only); exact ⟨⟨by omega, by omega, by omega, by omega, by omega, by omega, by omega, hha, by omega, by omega, rfl, fun h9 => absurd h9 (by omega)⟩, hg_20⟩) hP hD hK hS dX12_sums_83 hlocks
                · have kc_41 : n_10.toInt = 0 := by have h9 := c_41; simp only [ge_iff_le, gt_iff_lt, x_lt, x_le, x_eq, ne_eq, Int32.not_lt, Int32.not_le] at h9; simp only [Int32.reduceToInt] at h9; omega
                  exfalso
                  omega
              · exact absurd (by decide) c_40
            · have kc_39 : n_10.toInt = 0 := by have h9 := c_39; simp only [ge_iff_le, gt_iff_lt, x_lt, x_le, x_eq, ne_eq, Int32.not_lt, Int32.not_le] at h9; simp only [Int32.reduceToInt] at h9; omega
              exfalso
              omega
  exact loop 1500 1 (σ.1 2) (σ.1 4) (σ.1 5) (σ.1 6) (σ.1 23) (σ.1 29) (σ.2.2.1 27) (σ.1 32) (σ.2.2.1 30) (σ.1 31) (σ.2.2.1 24) (σ.2.2.1 26) H locs ls (by omega) (by omega) hb0 (by omega) (by omega) (by omega) ⟨by omega, by omega, by omega, by omega⟩ (by omega) (fun _ _ => rfl) ⟨by omega, by omega⟩ ⟨fun _ => ES_start _ _ _ _ _ _, fun h8 => absurd h8 (by decide)⟩ hB26 (by omega) hP hD hS (lv_sub hl [0, 1, 2] rfl)

