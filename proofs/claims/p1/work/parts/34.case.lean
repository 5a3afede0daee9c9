set_option maxHeartbeats 4000000 in
set_option maxRecDepth 100000 in
theorem law_case_12 {D : va_G} {y : Nat → ClassId} {za zb r1 r2 : Nat → Nat} {zw : Nat → Nat → Int32} {ow ub : Nat → Int64} {p : Program} {e : Env} {s : State} {m : MethodId} {below : List Frame} {meth : Method} {c : Code} (l : Launch) {b : Nat} {xs : Nat → Int32} {A : Nat → Prop} {H : Heap} {locs : List Loc} {ls : Array Slot} {h0 h1 : Nat} (C0 : lw_At p s m meth c b 6 xs) (hAl : ∀ q, A q → s.heap.size ≤ q) (hbA : ¬ A b) (hS : va_S A s.heap H locs) (hl : lv_has ls 4 [(3, .int 0), (2, .ref h1), (1, .ref h0), (0, .ref b)]) (hA : ∀ q, s.heap.size ≤ q → A q) (hK : va_K D vwCl (xT y) s) (hP : va_P D vwCl (mW y h1 (zb, zw, ub) ++ xW y h0 (za, r1, r2, ow)) H) (hD : va_D A (mW y h1 (zb, zw, ub) ++ xW y h0 (za, r1, r2, ow))) : W p l e room_1 s m #[Value.ref b] below meth c H locs 135 68060 (lw_Z below #[Value.ref b] s) (F0 m 490 ls []) := by
  obtain ⟨hx, hb, hr, hml, hown, hts, hX, hbl, hlocks, hgv⟩ := id C0
  have hown : s.vm.findClass RL = some m.cls := hown
  have hP : va_P D vwCl [(h0, .inr (10, [.ref (za 0), .ref (za 2), .ref (za 8), .ref (za 13), .ref (za 16), .ref (za 22), .ref (za 25), .ref (za 28), .ref (za 34), .ref (za 40), .ref (za 47)])), ((za 28), .inr (7, [.ref (za 29), .ref (za 30), .ref (za 31), .ref (za 32), .ref (za 33), .int (-1), .int 0, .int 0, .int 0, .int 0, .int 0, .int 0, .long 0])), (h1, .inr (11, mF zb xI0 xJ0))] H := x_subP hP [58, 79, 0] rfl
  have hD : va_D A [(h0, .inr (10, [.ref (za 0), .ref (za 2), .ref (za 8), .ref (za 13), .ref (za 16), .ref (za 22), .ref (za 25), .ref (za 28), .ref (za 34), .ref (za 40), .ref (za 47)])), ((za 28), .inr (7, [.ref (za 29), .ref (za 30), .ref (za 31), .ref (za 32), .ref (za 33), .int (-1), .int 0, .int 0, .int 0, .int 0, .int 0, .int 0, .long 0])), (h1, .inr (11, mF zb xI0 xJ0))] := x_subD hD [58, 79, 0] rfl (by decide)
  refine lv_aload_n hx hb dL_law_490 rfl (lv_at hl 2 rfl) ?_
  refine lv_aload_n hx hb dL_law_491 rfl (lv_at hl 3 rfl) ?_
  refine lv_iload_n hx hb dL_law_492 rfl (lv_at hl 0 rfl) ?_
  refine lv_iconst (v := 1) hx hb dL_law_493 (by decide) ?_
  refine lv_iadd hx hb dL_law_494 ?_
  refine lv_topi (fun i_1 ei_1 => ?_)
  obtain rfl : i_1 = 1 := ei_1.trans (by decide)
  refine va_sld hx hb hX hbl hbA hS (x_in (by decide) (by decide)) dL_law_495 ?_
  refine lv_if_eq (tgt := 503) hx hb dL_law_496 (by decide) (fun c_2 => ?_) (fun c_2 => ?_)
  · refine lv_iconst (v := 0) hx hb dL_law_503 (by decide) ?_
    refine x_calll (w1 := fun (u : Unit) => [(h0, .inr (10, [.ref (za 0), .ref (za 2), .ref (za 8), .ref (za 13), .ref (za 16), .ref (za 22), .ref (za 25), .ref (za 28), .ref (za 34), .ref (za 40), .ref (za 47)])), ((za 28), .inr (7, [.ref (za 29), .ref (za 30), .ref (za 31), .ref (za 32), .ref (za 33), .int (-1), .int 0, .int 0, .int 0, .int 0, .int 0, .int 0, .long 0]))]) (wr := [(h1, .inr (11, mF zb xI0 xJ0))]) (ws' := fun (u : Unit) => [(h0, .inr (10, [.ref (za 0), .ref (za 2), .ref (za 8), .ref (za 13), .ref (za 16), .ref (za 22), .ref (za 25), .ref (za 28), .ref (za 34), .ref (za 40), .ref (za 47)])), ((za 28), .inr (7, [.ref (za 29), .ref (za 30), .ref (za 31), .ref (za 32), .ref (za 33), .int (-1), .int 0, .int 0, .int 0, .int 0, .int 0, .int 0, .long 0])), (h1, .inr (11, mF zb xI0 xJ0))]) (va_runV (As := [.int 0]) (rest := []) ⟨hx, hb, hml, hown, hts⟩ (c_near0 l D y H.size h0 (za 0) (za 2) (za 8) (za 13) (za 16) (za 22) (za 25) (za 28) (za 34) (za 40) (za 47) (za 29) (za 30) (za 31) (za 32) (za 33) 0) (cwV 1 hts gl_26 rfl rfl rfl (by decide +kernel) ⟨Nat.le_of_ble_eq_true rfl, Nat.le_of_ble_eq_true rfl⟩) (x_preV (q := (RX11, TX11, 11)) hK (x_subP hP [0, 1] rfl) (x_subD hD [0, 1] rfl (by decide)) (ci := 10) (q0 := 0) rfl rfl) rfl rfl hl.1 rfl (lv_room (Nat.le_of_ble_eq_true rfl)) dL_law_504 ⟨Nat.le_of_ble_eq_true rfl, Nat.le_of_ble_eq_true rfl⟩) hP hD hS hA [0, 1] [2] rfl rfl (by decide) (by decide) [1, 2, 0] (fun _ => rfl) (by decide) (fun r_3 u H locs hw hP hD hS => ?_)
    try dsimp only at hw
    obtain rfl : r_3 = (-2000000000) := hw
    have hP : va_P D vwCl [(h0, .inr (10, [.ref (za 0), .ref (za 2), .ref (za 8), .ref (za 13), .ref (za 16), .ref (za 22), .ref (za 25), .ref (za 28), .ref (za 34), .ref (za 40), .ref (za 47)])), ((za 28), .inr (7, [.ref (za 29), .ref (za 30), .ref (za 31), .ref (za 32), .ref (za 33), .int (-1), .int 0, .int 0, .int 0, .int 0, .int 0, .int 0, .long 0])), (h1, .inr (11, mF zb xI0 xJ0))] H := hP
    have hD : va_D A [(h0, .inr (10, [.ref (za 0), .ref (za 2), .ref (za 8), .ref (za 13), .ref (za 16), .ref (za 22), .ref (za 25), .ref (za 28), .ref (za 34), .ref (za 40), .ref (za 47)])), ((za 28), .inr (7, [.ref (za 29), .ref (za 30), .ref (za 31), .ref (za 32), .ref (za 33), .int (-1), .int 0, .int 0, .int 0, .int 0, .int 0, .int 0, .long 0])), (h1, .inr (11, mF zb xI0 xJ0))] := hD
    refine lv_aload_n hx hb dL_law_507 rfl (lv_at hl 1 rfl) ?_
    refine lv_aload_n hx hb dL_law_508 rfl (lv_at hl 3 rfl) ?_
    refine lv_iload_n hx hb dL_law_509 rfl (lv_at hl 0 rfl) ?_
    refine lv_iconst (v := 1) hx hb dL_law_510 (by decide) ?_
    refine lv_iadd hx hb dL_law_511 ?_
    refine lv_topi (fun i_4 ei_4 => ?_)
    obtain rfl : i_4 = 1 := ei_4.trans (by decide)
    refine va_sld hx hb hX hbl hbA hS (x_in (by decide) (by decide)) dL_law_512 ?_
    refine lv_if_eq (tgt := 520) hx hb dL_law_513 (by decide) (fun c_5 => ?_) (fun c_5 => ?_)
    · refine lv_iconst (v := 0) hx hb dL_law_520 (by decide) ?_
      refine x_calll (w1 := fun (u : Unit) => [(h1, .inr (11, mF zb (upd xI0 54 0) xJ0))]) (wr := [(h0, .inr (10, [.ref (za 0), .ref (za 2), .ref (za 8), .ref (za 13), .ref (za 16), .ref (za 22), .ref (za 25), .ref (za 28), .ref (za 34), .ref (za 40), .ref (za 47)])), ((za 28), .inr (7, [.ref (za 29), .ref (za 30), .ref (za 31), .ref (za 32), .ref (za 33), .int (-1), .int 0, .int 0, .int 0, .int 0, .int 0, .int 0, .long 0]))]) (ws' := fun (u : Unit) => [(h0, .inr (10, [.ref (za 0), .ref (za 2), .ref (za 8), .ref (za 13), .ref (za 16), .ref (za 22), .ref (za 25), .ref (za 28), .ref (za 34), .ref (za 40), .ref (za 47)])), ((za 28), .inr (7, [.ref (za 29), .ref (za 30), .ref (za 31), .ref (za 32), .ref (za 33), .int (-1), .int 0, .int 0, .int 0, .int 0, .int 0, .int 0, .long 0])), (h1, .inr (11, mF zb (upd xI0 54 0) xJ0))]) (va_runV (As := [.int 0]) (rest := [.long (-2000000000)]) ⟨hx, hb, hml, hown, hts⟩ (m_near0 l D y H.size h1 zb xI0 xJ0 0) (cwV 1 hts gl_27 rfl rfl rfl (by decide +kernel) ⟨Nat.le_of_ble_eq_true rfl, Nat.le_of_ble_eq_true rfl⟩) (x_preV (q := (RX12, TX12, 85)) hK (x_subP hP [2] rfl) (x_subD hD [2] rfl (by decide)) (ci := 11) (q0 := 0) rfl rfl) rfl rfl hl.1 rfl (lv_room (Nat.le_of_ble_eq_true rfl)) dL_law_521 ⟨Nat.le_of_ble_eq_true rfl, Nat.le_of_ble_eq_true rfl⟩) hP hD hS hA [2] [0, 1] rfl rfl (by decide) (by decide) [0, 1, 2] (fun _ => rfl) (by decide) (fun r_6 u H locs hw hP hD hS => ?_)
      try dsimp only at hw
      obtain rfl : r_6 = (-2000000000) := hw
      have hP : va_P D vwCl [(h0, .inr (10, [.ref (za 0), .ref (za 2), .ref (za 8), .ref (za 13), .ref (za 16), .ref (za 22), .ref (za 25), .ref (za 28), .ref (za 34), .ref (za 40), .ref (za 47)])), ((za 28), .inr (7, [.ref (za 29), .ref (za 30), .ref (za 31), .ref (za 32), .ref (za 33), .int (-1), .int 0, .int 0, .int 0, .int 0, .int 0, .int 0, .long 0])), (h1, .inr (11, mF zb (upd xI0 54 0) xJ0))] H := hP
      have hD : va_D A [(h0, .inr (10, [.ref (za 0), .ref (za 2), .ref (za 8), .ref (za 13), .ref (za 16), .ref (za 22), .ref (za 25), .ref (za 28), .ref (za 34), .ref (za 40), .ref (za 47)])), ((za 28), .inr (7, [.ref (za 29), .ref (za 30), .ref (za 31), .ref (za 32), .ref (za 33), .int (-1), .int 0, .int 0, .int 0, .int 0, .int 0, .int 0, .long 0])), (h1, .inr (11, mF zb (upd xI0 54 0) xJ0))] := hD
      refine W.lcmp hx hb dL_law_524 ?_
      refine lv_if_eq (tgt := 958) hx hb dL_law_525 (by decide) (fun c_7 => ?_) (fun c_7 => ?_)
      · exact law_end l C0 hAl hbA hS (lv_sub hl [0, 1, 2, 3] rfl)
      · exact absurd (by decide) c_7
    · refine lv_iconst (v := 1) hx hb dL_law_516 (by decide) ?_
      refine lv_goto (tgt := 521) hx hb dL_law_517 (by decide) ?_
      refine x_calll (w1 := fun (u : Unit) => [(h1, .inr (11, mF zb (upd xI0 54 0) xJ0))]) (wr := [(h0, .inr (10, [.ref (za 0), .ref (za 2), .ref (za 8), .ref (za 13), .ref (za 16), .ref (za 22), .ref (za 25), .ref (za 28), .ref (za 34), .ref (za 40), .ref (za 47)])), ((za 28), .inr (7, [.ref (za 29), .ref (za 30), .ref (za 31), .ref (za 32), .ref (za 33), .int (-1), .int 0, .int 0, .int 0, .int 0, .int 0, .int 0, .long 0]))]) (ws' := fun (u : Unit) => [(h0, .inr (10, [.ref (za 0), .ref (za 2), .ref (za 8), .ref (za 13), .ref (za 16), .ref (za 22), .ref (za 25), .ref (za 28), .ref (za 34), .ref (za 40), .ref (za 47)])), ((za 28), .inr (7, [.ref (za 29), .ref (za 30), .ref (za 31), .ref (za 32), .ref (za 33), .int (-1), .int 0, .int 0, .int 0, .int 0, .int 0, .int 0, .long 0])), (h1, .inr (11, mF zb (upd xI0 54 0) xJ0))]) (va_runV (As := [.int 1]) (rest := [.long (-2000000000)]) ⟨hx, hb, hml, hown, hts⟩ (m_near0 l D y H.size h1 zb xI0 xJ0 1) (cwV 1 hts gl_27 rfl rfl rfl (by decide +kernel) ⟨Nat.le_of_ble_eq_true rfl, Nat.le_of_ble_eq_true rfl⟩) (x_preV (q := (RX12, TX12, 85)) hK (x_subP hP [2] rfl) (x_subD hD [2] rfl (by decide)) (ci := 11) (q0 := 0) rfl rfl) rfl rfl hl.1 rfl (lv_room (Nat.le_of_ble_eq_true rfl)) dL_law_521 ⟨Nat.le_of_ble_eq_true rfl, Nat.le_of_ble_eq_true rfl⟩) hP hD hS hA [2] [0, 1] rfl rfl (by decide) (by decide) [0, 1, 2] (fun _ => rfl) (by decide) (fun r_8 u H locs hw hP hD hS => ?_)
      try dsimp only at hw
      obtain rfl : r_8 = (-2000000000) := hw
      have hP : va_P D vwCl [(h0, .inr (10, [.ref (za 0), .ref (za 2), .ref (za 8), .ref (za 13), .ref (za 16), .ref (za 22), .ref (za 25), .ref (za 28), .ref (za 34), .ref (za 40), .ref (za 47)])), ((za 28), .inr (7, [.ref (za 29), .ref (za 30), .ref (za 31), .ref (za 32), .ref (za 33), .int (-1), .int 0, .int 0, .int 0, .int 0, .int 0, .int 0, .long 0])), (h1, .inr (11, mF zb (upd xI0 54 0) xJ0))] H := hP
      have hD : va_D A [(h0, .inr (10, [.ref (za 0), .ref (za 2), .ref (za 8), .ref (za 13), .ref (za 16), .ref (za 22), .ref (za 25), .ref (za 28), .ref (za 34), .ref (za 40), .ref (za 47)])), ((za 28), .inr (7, [.ref (za 29), .ref (za 30), .ref (za 31), .ref (za 32), .ref (za 33), .int (-1), .int 0, .int 0, .int 0, .int 0, .int 0, .int 0, .long 0])), (h1, .inr (11, mF zb (upd xI0 54 0) xJ0))] := hD
      refine W.lcmp hx hb dL_law_524 ?_
      refine lv_if_eq (tgt := 958) hx hb dL_law_525 (by decide) (fun c_9 => ?_) (fun c_9 => ?_)
      · exact law_end l C0 hAl hbA hS (lv_sub hl [0, 1, 2, 3] rfl)
      · exact absurd (by decide) c_9
  · refine lv_iconst (v := 1) hx hb dL_law_499 (by decide) ?_
    refine lv_goto (tgt := 504) hx hb dL_law_500 (by decide) ?_
    refine x_calll (w1 := fun (u : Unit) => [(h0, .inr (10, [.ref (za 0), .ref (za 2), .ref (za 8), .ref (za 13), .ref (za 16), .ref (za 22), .ref (za 25), .ref (za 28), .ref (za 34), .ref (za 40), .ref (za 47)])), ((za 28), .inr (7, [.ref (za 29), .ref (za 30), .ref (za 31), .ref (za 32), .ref (za 33), .int (-1), .int 0, .int 0, .int 0, .int 0, .int 0, .int 0, .long 0]))]) (wr := [(h1, .inr (11, mF zb xI0 xJ0))]) (ws' := fun (u : Unit) => [(h0, .inr (10, [.ref (za 0), .ref (za 2), .ref (za 8), .ref (za 13), .ref (za 16), .ref (za 22), .ref (za 25), .ref (za 28), .ref (za 34), .ref (za 40), .ref (za 47)])), ((za 28), .inr (7, [.ref (za 29), .ref (za 30), .ref (za 31), .ref (za 32), .ref (za 33), .int (-1), .int 0, .int 0, .int 0, .int 0, .int 0, .int 0, .long 0])), (h1, .inr (11, mF zb xI0 xJ0))]) (va_runV (As := [.int 1]) (rest := []) ⟨hx, hb, hml, hown, hts⟩ (c_near0 l D y H.size h0 (za 0) (za 2) (za 8) (za 13) (za 16) (za 22) (za 25) (za 28) (za 34) (za 40) (za 47) (za 29) (za 30) (za 31) (za 32) (za 33) 1) (cwV 1 hts gl_26 rfl rfl rfl (by decide +kernel) ⟨Nat.le_of_ble_eq_true rfl, Nat.le_of_ble_eq_true rfl⟩) (x_preV (q := (RX11, TX11, 11)) hK (x_subP hP [0, 1] rfl) (x_subD hD [0, 1] rfl (by decide)) (ci := 10) (q0 := 0) rfl rfl) rfl rfl hl.1 rfl (lv_room (Nat.le_of_ble_eq_true rfl)) dL_law_504 ⟨Nat.le_of_ble_eq_true rfl, Nat.le_of_ble_eq_true rfl⟩) hP hD hS hA [0, 1] [2] rfl rfl (by decide) (by decide) [1, 2, 0] (fun _ => rfl) (by decide) (fun r_10 u H locs hw hP hD hS => ?_)
    try dsimp only at hw
    obtain rfl : r_10 = (-2000000000) := hw
    have hP : va_P D vwCl [(h0, .inr (10, [.ref (za 0), .ref (za 2), .ref (za 8), .ref (za 13), .ref (za 16), .ref (za 22), .ref (za 25), .ref (za 28), .ref (za 34), .ref (za 40), .ref (za 47)])), ((za 28), .inr (7, [.ref (za 29), .ref (za 30), .ref (za 31), .ref (za 32), .ref (za 33), .int (-1), .int 0, .int 0, .int 0, .int 0, .int 0, .int 0, .long 0])), (h1, .inr (11, mF zb xI0 xJ0))] H := hP
    have hD : va_D A [(h0, .inr (10, [.ref (za 0), .ref (za 2), .ref (za 8), .ref (za 13), .ref (za 16), .ref (za 22), .ref (za 25), .ref (za 28), .ref (za 34), .ref (za 40), .ref (za 47)])), ((za 28), .inr (7, [.ref (za 29), .ref (za 30), .ref (za 31), .ref (za 32), .ref (za 33), .int (-1), .int 0, .int 0, .int 0, .int 0, .int 0, .int 0, .long 0])), (h1, .inr (11, mF zb xI0 xJ0))] := hD
    refine lv_aload_n hx hb dL_law_507 rfl (lv_at hl 1 rfl) ?_
    refine lv_aload_n hx hb dL_law_508 rfl (lv_at hl 3 rfl) ?_
    refine lv_iload_n hx hb dL_law_509 rfl (lv_at hl 0 rfl) ?_
    refine lv_iconst (v := 1) hx hb dL_law_510 (by decide) ?_
    refine lv_iadd hx hb dL_law_511 ?_
    refine lv_topi (fun i_11 ei_11 => ?_)
    obtain rfl : i_11 = 1 := ei_11.trans (by decide)
    refine va_sld hx hb hX hbl hbA hS (x_in (by decide) (by decide)) dL_law_512 ?_
    refine lv_if_eq (tgt := 520) hx hb dL_law_513 (by decide) (fun c_12 => ?_) (fun c_12 => ?_)
    · refine lv_iconst (v := 0) hx hb dL_law_520 (by decide) ?_
      refine x_calll (w1 := fun (u : Unit) => [(h1, .inr (11, mF zb (upd xI0 54 0) xJ0))]) (wr := [(h0, .inr (10, [.ref (za 0), .ref (za 2), .ref (za 8), .ref (za 13), .ref (za 16), .ref (za 22), .ref (za 25), .ref (za 28), .ref (za 34), .ref (za 40), .ref (za 47)])), ((za 28), .inr (7, [.ref (za 29), .ref (za 30), .ref (za 31), .ref (za 32), .ref (za 33), .int (-1), .int 0, .int 0, .int 0, .int 0, .int 0, .int 0, .long 0]))]) (ws' := fun (u : Unit) => [(h0, .inr (10, [.ref (za 0), .ref (za 2), .ref (za 8), .ref (za 13), .ref (za 16), .ref (za 22), .ref (za 25), .ref (za 28), .ref (za 34), .ref (za 40), .ref (za 47)])), ((za 28), .inr (7, [.ref (za 29), .ref (za 30), .ref (za 31), .ref (za 32), .ref (za 33), .int (-1), .int 0, .int 0, .int 0, .int 0, .int 0, .int 0, .long 0])), (h1, .inr (11, mF zb (upd xI0 54 0) xJ0))]) (va_runV (As := [.int 0]) (rest := [.long (-2000000000)]) ⟨hx, hb, hml, hown, hts⟩ (m_near0 l D y H.size h1 zb xI0 xJ0 0) (cwV 1 hts gl_27 rfl rfl rfl (by decide +kernel) ⟨Nat.le_of_ble_eq_true rfl, Nat.le_of_ble_eq_true rfl⟩) (x_preV (q := (RX12, TX12, 85)) hK (x_subP hP [2] rfl) (x_subD hD [2] rfl (by decide)) (ci := 11) (q0 := 0) rfl rfl) rfl rfl hl.1 rfl (lv_room (Nat.le_of_ble_eq_true rfl)) dL_law_521 ⟨Nat.le_of_ble_eq_true rfl, Nat.le_of_ble_eq_true rfl⟩) hP hD hS hA [2] [0, 1] rfl rfl (by decide) (by decide) [0, 1, 2] (fun _ => rfl) (by decide) (fun r_13 u H locs hw hP hD hS => ?_)
      try dsimp only at hw
      obtain rfl : r_13 = (-2000000000) := hw
      have hP : va_P D vwCl [(h0, .inr (10, [.ref (za 0), .ref (za 2), .ref (za 8), .ref (za 13), .ref (za 16), .ref (za 22), .ref (za 25), .ref (za 28), .ref (za 34), .ref (za 40), .ref (za 47)])), ((za 28), .inr (7, [.ref (za 29), .ref (za 30), .ref (za 31), .ref (za 32), .ref (za 33), .int (-1), .int 0, .int 0, .int 0, .int 0, .int 0, .int 0, .long 0])), (h1, .inr (11, mF zb (upd xI0 54 0) xJ0))] H := hP
      have hD : va_D A [(h0, .inr (10, [.ref (za 0), .ref (za 2), .ref (za 8), .ref (za 13), .ref (za 16), .ref (za 22), .ref (za 25), .ref (za 28), .ref (za 34), .ref (za 40), .ref (za 47)])), ((za 28), .inr (7, [.ref (za 29), .ref (za 30), .ref (za 31), .ref (za 32), .ref (za 33), .int (-1), .int 0, .int 0, .int 0, .int 0, .int 0, .int 0, .long 0])), (h1, .inr (11, mF zb (upd xI0 54 0) xJ0))] := hD
      refine W.lcmp hx hb dL_law_524 ?_
      refine lv_if_eq (tgt := 958) hx hb dL_law_525 (by decide) (fun c_14 => ?_) (fun c_14 => ?_)
      · exact law_end l C0 hAl hbA hS (lv_sub hl [0, 1, 2, 3] rfl)
      · exact absurd (by decide) c_14
    · refine lv_iconst (v := 1) hx hb dL_law_516 (by decide) ?_
      refine lv_goto (tgt := 521) hx hb dL_law_517 (by decide) ?_
      refine x_calll (w1 := fun (u : Unit) => [(h1, .inr (11, mF zb (upd xI0 54 0) xJ0))]) (wr := [(h0, .inr (10, [.ref (za 0), .ref (za 2), .ref (za 8), .ref (za 13), .ref (za 16), .ref (za 22), .ref (za 25), .ref (za 28), .ref (za 34), .ref (za 40), .ref (za 47)])), ((za 28), .inr (7, [.ref (za 29), .ref (za 30), .ref (za 31), .ref (za 32), .ref (za 33), .int (-1), .int 0, .int 0, .int 0, .int 0, .int 0, .int 0, .long 0]))]) (ws' := fun (u : Unit) => [(h0, .inr (10, [.ref (za 0), .ref (za 2), .ref (za 8), .ref (za 13), .ref (za 16), .ref (za 22), .ref (za 25), .ref (za 28), .ref (za 34), .ref (za 40), .ref (za 47)])), ((za 28), .inr (7, [.ref (za 29), .ref (za 30), .ref (za 31), .ref (za 32), .ref (za 33), .int (-1), .int 0, .int 0, .int 0, .int 0, .int 0, .int 0, .long 0])), (h1, .inr (11, mF zb (upd xI0 54 0) xJ0))]) (va_runV (As := [.int 1]) (rest := [.long (-2000000000)]) ⟨hx, hb, hml, hown, hts⟩ (m_near0 l D y H.size h1 zb xI0 xJ0 1) (cwV 1 hts gl_27 rfl rfl rfl (by decide +kernel) ⟨Nat.le_of_ble_eq_true rfl, Nat.le_of_ble_eq_true rfl⟩) (x_preV (q := (RX12, TX12, 85)) hK (x_subP hP [2] rfl) (x_subD hD [2] rfl (by decide)) (ci := 11) (q0 := 0) rfl rfl) rfl rfl hl.1 rfl (lv_room (Nat.le_of_ble_eq_true rfl)) dL_law_521 ⟨Nat.le_of_ble_eq_true rfl, Nat.le_of_ble_eq_true rfl⟩) hP hD hS hA [2] [0, 1] rfl rfl (by decide) (by decide) [0, 1, 2] (fun _ => rfl) (by decide) (fun r_15 u H locs hw hP hD hS => ?_)
      try dsimp only at hw
      obtain rfl : r_15 = (-2000000000) := hw
      have hP : va_P D vwCl [(h0, .inr (10, [.ref (za 0), .ref (za 2), .ref (za 8), .ref (za 13), .ref (za 16), .ref (za 22), .ref (za 25), .ref (za 28), .ref (za 34), .ref (za 40), .ref (za 47)])), ((za 28), .inr (7, [.ref (za 29), .ref (za 30), .ref (za 31), .ref (za 32), .ref (za 33), .int (-1), .int 0, .int 0, .int 0, .int 0, .int 0, .int 0, .long 0])), (h1, .inr (11, mF zb (upd xI0 54 0) xJ0))] H := hP
      have hD : va_D A [(h0, .inr (10, [.ref (za 0), .ref (za 2), .ref (za 8), .ref (za 13), .ref (za 16), .ref (za 22), .ref (za 25), .ref (za 28), .ref (za 34), .ref (za 40), .ref (za 47)])), ((za 28), .inr (7, [.ref (za 29), .ref (za 30), .ref (za 31), .ref (za 32), .ref (za 33), .int (-1), .int 0, .int 0, .int 0, .int 0, .int 0, .int 0, .long 0])), (h1, .inr (11, mF zb (upd xI0 54 0) xJ0))] := hD
      refine W.lcmp hx hb dL_law_524 ?_
      refine lv_if_eq (tgt := 958) hx hb dL_law_525 (by decide) (fun c_16 => ?_) (fun c_16 => ?_)
      · exact law_end l C0 hAl hbA hS (lv_sub hl [0, 1, 2, 3] rfl)
      · exact absurd (by decide) c_16
set_option maxHeartbeats 4000000 in
set_option maxRecDepth 100000 in
theorem law_case_13 {D : va_G} {y : Nat → ClassId} {za zb r1 r2 : Nat → Nat} {zw : Nat → Nat → Int32} {ow ub : Nat → Int64} {p : Program} {e : Env} {s : State} {m : MethodId} {below : List Frame} {meth : Method} {c : Code} (l : Launch) {b : Nat} {xs : Nat → Int32} {A : Nat → Prop} {H : Heap} {locs : List Loc} {ls : Array Slot} {h0 h1 : Nat} (C0 : lw_At p s m meth c b 6 xs) (hAl : ∀ q, A q → s.heap.size ≤ q) (hbA : ¬ A b) (hS : va_S A s.heap H locs) (hl : lv_has ls 4 [(3, .int 0), (2, .ref h1), (1, .ref h0), (0, .ref b)]) (hA : ∀ q, s.heap.size ≤ q → A q) (hK : va_K D vwCl (xT y) s) (hP : va_P D vwCl (mW y h1 (zb, zw, ub) ++ xW y h0 (za, r1, r2, ow)) H) (hD : va_D A (mW y h1 (zb, zw, ub) ++ xW y h0 (za, r1, r2, ow))) : W p l e room_1 s m #[Value.ref b] below meth c H locs 135 68060 (lw_Z below #[Value.ref b] s) (F0 m 530 ls []) := by
  obtain ⟨hx, hb, hr, hml, hown, hts, hX, hbl, hlocks, hgv⟩ := id C0
  have hown : s.vm.findClass RL = some m.cls := hown
  have hP : va_P D vwCl [(h0, .inr (10, [.ref (za 0), .ref (za 2), .ref (za 8), .ref (za 13), .ref (za 16), .ref (za 22), .ref (za 25), .ref (za 28), .ref (za 34), .ref (za 40), .ref (za 47)])), ((za 28), .inr (7, [.ref (za 29), .ref (za 30), .ref (za 31), .ref (za 32), .ref (za 33), .int (-1), .int 0, .int 0, .int 0, .int 0, .int 0, .int 0, .long 0])), (h1, .inr (11, mF zb xI0 xJ0))] H := x_subP hP [58, 79, 0] rfl
  have hD : va_D A [(h0, .inr (10, [.ref (za 0), .ref (za 2), .ref (za 8), .ref (za 13), .ref (za 16), .ref (za 22), .ref (za 25), .ref (za 28), .ref (za 34), .ref (za 40), .ref (za 47)])), ((za 28), .inr (7, [.ref (za 29), .ref (za 30), .ref (za 31), .ref (za 32), .ref (za 33), .int (-1), .int 0, .int 0, .int 0, .int 0, .int 0, .int 0, .long 0])), (h1, .inr (11, mF zb xI0 xJ0))] := x_subD hD [58, 79, 0] rfl (by decide)
  refine lv_aload_n hx hb dL_law_530 rfl (lv_at hl 2 rfl) ?_
  refine lv_aload_n hx hb dL_law_531 rfl (lv_at hl 3 rfl) ?_
  refine lv_iload_n hx hb dL_law_532 rfl (lv_at hl 0 rfl) ?_
  refine lv_iconst (v := 1) hx hb dL_law_533 (by decide) ?_
  refine lv_iadd hx hb dL_law_534 ?_
  refine lv_topi (fun i_1 ei_1 => ?_)
  obtain rfl : i_1 = 1 := ei_1.trans (by decide)
  refine va_sld hx hb hX hbl hbA hS (x_in (by decide) (by decide)) dL_law_535 ?_
  refine lv_aload_n hx hb dL_law_536 rfl (lv_at hl 3 rfl) ?_
  refine lv_iload_n hx hb dL_law_537 rfl (lv_at hl 0 rfl) ?_
  refine lv_iconst (v := 2) hx hb dL_law_538 (by decide) ?_
  refine lv_iadd hx hb dL_law_539 ?_
  refine lv_topi (fun i_2 ei_2 => ?_)
  obtain rfl : i_2 = 2 := ei_2.trans (by decide)
  refine va_sld hx hb hX hbl hbA hS (x_in (by decide) (by decide)) dL_law_540 ?_
  refine lv_aload_n hx hb dL_law_541 rfl (lv_at hl 3 rfl) ?_
  refine lv_iload_n hx hb dL_law_542 rfl (lv_at hl 0 rfl) ?_
  refine lv_iconst (v := 3) hx hb dL_law_543 (by decide) ?_
  refine lv_iadd hx hb dL_law_544 ?_
  refine lv_topi (fun i_3 ei_3 => ?_)
  obtain rfl : i_3 = 3 := ei_3.trans (by decide)
  refine va_sld hx hb hX hbl hbA hS (x_in (by decide) (by decide)) dL_law_545 ?_
  refine lv_if_eq (tgt := 553) hx hb dL_law_546 (by decide) (fun c_4 => ?_) (fun c_4 => ?_)
  · refine lv_iconst (v := 0) hx hb dL_law_553 (by decide) ?_
    refine x_calll (w1 := fun (u : Unit) => [(h0, .inr (10, [.ref (za 0), .ref (za 2), .ref (za 8), .ref (za 13), .ref (za 16), .ref (za 22), .ref (za 25), .ref (za 28), .ref (za 34), .ref (za 40), .ref (za 47)])), ((za 28), .inr (7, [.ref (za 29), .ref (za 30), .ref (za 31), .ref (za 32), .ref (za 33), .int (-1), .int 0, .int 0, .int 0, .int 0, .int 0, .int 0, .long 0]))]) (wr := [(h1, .inr (11, mF zb xI0 xJ0))]) (ws' := fun (u : Unit) => [(h0, .inr (10, [.ref (za 0), .ref (za 2), .ref (za 8), .ref (za 13), .ref (za 16), .ref (za 22), .ref (za 25), .ref (za 28), .ref (za 34), .ref (za 40), .ref (za 47)])), ((za 28), .inr (7, [.ref (za 29), .ref (za 30), .ref (za 31), .ref (za 32), .ref (za 33), .int (-1), .int 0, .int 0, .int 0, .int 0, .int 0, .int 0, .long 0])), (h1, .inr (11, mF zb xI0 xJ0))]) (va_runV (As := [.int (xs (Int32.toNatClampNeg 1)), .int (xs (Int32.toNatClampNeg 2)), .int 0]) (rest := []) ⟨hx, hb, hml, hown, hts⟩ (c_forward0 l D y H.size h0 (za 0) (za 2) (za 8) (za 13) (za 16) (za 22) (za 25) (za 28) (za 34) (za 40) (za 47) (za 29) (za 30) (za 31) (za 32) (za 33) (xs (Int32.toNatClampNeg 1)) (xs (Int32.toNatClampNeg 2)) 0) (cwV 3 hts gl_28 rfl rfl rfl (by decide +kernel) ⟨Nat.le_of_ble_eq_true rfl, Nat.le_of_ble_eq_true rfl⟩) (x_preV (q := (RX11, TX11, 11)) hK (x_subP hP [0, 1] rfl) (x_subD hD [0, 1] rfl (by decide)) (ci := 10) (q0 := 0) rfl rfl) rfl rfl hl.1 rfl (lv_room (Nat.le_of_ble_eq_true rfl)) dL_law_554 ⟨Nat.le_of_ble_eq_true rfl, Nat.le_of_ble_eq_true rfl⟩) hP hD hS hA [0, 1] [2] rfl rfl (by decide) (by decide) [1, 2, 0] (fun _ => rfl) (by decide) (fun r_5 u H locs hw hP hD hS => ?_)
    try dsimp only at hw
    obtain rfl : r_5 = (-2000000000) := hw
    have hP : va_P D vwCl [(h0, .inr (10, [.ref (za 0), .ref (za 2), .ref (za 8), .ref (za 13), .ref (za 16), .ref (za 22), .ref (za 25), .ref (za 28), .ref (za 34), .ref (za 40), .ref (za 47)])), ((za 28), .inr (7, [.ref (za 29), .ref (za 30), .ref (za 31), .ref (za 32), .ref (za 33), .int (-1), .int 0, .int 0, .int 0, .int 0, .int 0, .int 0, .long 0])), (h1, .inr (11, mF zb xI0 xJ0))] H := hP
    have hD : va_D A [(h0, .inr (10, [.ref (za 0), .ref (za 2), .ref (za 8), .ref (za 13), .ref (za 16), .ref (za 22), .ref (za 25), .ref (za 28), .ref (za 34), .ref (za 40), .ref (za 47)])), ((za 28), .inr (7, [.ref (za 29), .ref (za 30), .ref (za 31), .ref (za 32), .ref (za 33), .int (-1), .int 0, .int 0, .int 0, .int 0, .int 0, .int 0, .long 0])), (h1, .inr (11, mF zb xI0 xJ0))] := hD
    refine lv_aload_n hx hb dL_law_557 rfl (lv_at hl 1 rfl) ?_
    refine lv_aload_n hx hb dL_law_558 rfl (lv_at hl 3 rfl) ?_
    refine lv_iload_n hx hb dL_law_559 rfl (lv_at hl 0 rfl) ?_
    refine lv_iconst (v := 1) hx hb dL_law_560 (by decide) ?_
    refine lv_iadd hx hb dL_law_561 ?_
    refine lv_topi (fun i_6 ei_6 => ?_)
    obtain rfl : i_6 = 1 := ei_6.trans (by decide)
    refine va_sld hx hb hX hbl hbA hS (x_in (by decide) (by decide)) dL_law_562 ?_
    refine lv_aload_n hx hb dL_law_563 rfl (lv_at hl 3 rfl) ?_
    refine lv_iload_n hx hb dL_law_564 rfl (lv_at hl 0 rfl) ?_
    refine lv_iconst (v := 2) hx hb dL_law_565 (by decide) ?_
    refine lv_iadd hx hb dL_law_566 ?_
    refine lv_topi (fun i_7 ei_7 => ?_)
    obtain rfl : i_7 = 2 := ei_7.trans (by decide)
    refine va_sld hx hb hX hbl hbA hS (x_in (by decide) (by decide)) dL_law_567 ?_
    refine lv_aload_n hx hb dL_law_568 rfl (lv_at hl 3 rfl) ?_
    refine lv_iload_n hx hb dL_law_569 rfl (lv_at hl 0 rfl) ?_
    refine lv_iconst (v := 3) hx hb dL_law_570 (by decide) ?_
    refine lv_iadd hx hb dL_law_571 ?_
    refine lv_topi (fun i_8 ei_8 => ?_)
    obtain rfl : i_8 = 3 := ei_8.trans (by decide)
    refine va_sld hx hb hX hbl hbA hS (x_in (by decide) (by decide)) dL_law_572 ?_
    refine lv_if_eq (tgt := 580) hx hb dL_law_573 (by decide) (fun c_9 => ?_) (fun c_9 => ?_)
    · refine lv_iconst (v := 0) hx hb dL_law_580 (by decide) ?_
      refine x_calll (w1 := fun (u : Unit) => [(h1, .inr (11, mF zb (upd xI0 54 0) xJ0))]) (wr := [(h0, .inr (10, [.ref (za 0), .ref (za 2), .ref (za 8), .ref (za 13), .ref (za 16), .ref (za 22), .ref (za 25), .ref (za 28), .ref (za 34), .ref (za 40), .ref (za 47)])), ((za 28), .inr (7, [.ref (za 29), .ref (za 30), .ref (za 31), .ref (za 32), .ref (za 33), .int (-1), .int 0, .int 0, .int 0, .int 0, .int 0, .int 0, .long 0]))]) (ws' := fun (u : Unit) => [(h0, .inr (10, [.ref (za 0), .ref (za 2), .ref (za 8), .ref (za 13), .ref (za 16), .ref (za 22), .ref (za 25), .ref (za 28), .ref (za 34), .ref (za 40), .ref (za 47)])), ((za 28), .inr (7, [.ref (za 29), .ref (za 30), .ref (za 31), .ref (za 32), .ref (za 33), .int (-1), .int 0, .int 0, .int 0, .int 0, .int 0, .int 0, .long 0])), (h1, .inr (11, mF zb (upd xI0 54 0) xJ0))]) (va_runV (As := [.int (xs (Int32.toNatClampNeg 1)), .int (xs (Int32.toNatClampNeg 2)), .int 0]) (rest := [.long (-2000000000)]) ⟨hx, hb, hml, hown, hts⟩ (m_forward0 l D y H.size h1 zb xI0 xJ0 (xs (Int32.toNatClampNeg 1)) (xs (Int32.toNatClampNeg 2)) 0) (cwV 3 hts gl_29 rfl rfl rfl (by decide +kernel) ⟨Nat.le_of_ble_eq_true rfl, Nat.le_of_ble_eq_true rfl⟩) (x_preV (q := (RX12, TX12, 85)) hK (x_subP hP [2] rfl) (x_subD hD [2] rfl (by decide)) (ci := 11) (q0 := 0) rfl rfl) rfl rfl hl.1 rfl (lv_room (Nat.le_of_ble_eq_true rfl)) dL_law_581 ⟨Nat.le_of_ble_eq_true rfl, Nat.le_of_ble_eq_true rfl⟩) hP hD hS hA [2] [0, 1] rfl rfl (by decide) (by decide) [0, 1, 2] (fun _ => rfl) (by decide) (fun r_10 u H locs hw hP hD hS => ?_)
      try dsimp only at hw
      obtain rfl : r_10 = (-2000000000) := hw
      have hP : va_P D vwCl [(h0, .inr (10, [.ref (za 0), .ref (za 2), .ref (za 8), .ref (za 13), .ref (za 16), .ref (za 22), .ref (za 25), .ref (za 28), .ref (za 34), .ref (za 40), .ref (za 47)])), ((za 28), .inr (7, [.ref (za 29), .ref (za 30), .ref (za 31), .ref (za 32), .ref (za 33), .int (-1), .int 0, .int 0, .int 0, .int 0, .int 0, .int 0, .long 0])), (h1, .inr (11, mF zb (upd xI0 54 0) xJ0))] H := hP
      have hD : va_D A [(h0, .inr (10, [.ref (za 0), .ref (za 2), .ref (za 8), .ref (za 13), .ref (za 16), .ref (za 22), .ref (za 25), .ref (za 28), .ref (za 34), .ref (za 40), .ref (za 47)])), ((za 28), .inr (7, [.ref (za 29), .ref (za 30), .ref (za 31), .ref (za 32), .ref (za 33), .int (-1), .int 0, .int 0, .int 0, .int 0, .int 0, .int 0, .long 0])), (h1, .inr (11, mF zb (upd xI0 54 0) xJ0))] := hD
      refine W.lcmp hx hb dL_law_584 ?_
      refine lv_if_eq (tgt := 958) hx hb dL_law_585 (by decide) (fun c_11 => ?_) (fun c_11 => ?_)
      · exact law_end l C0 hAl hbA hS (lv_sub hl [0, 1, 2, 3] rfl)
      · exact absurd (by decide) c_11
    · refine lv_iconst (v := 1) hx hb dL_law_576 (by decide) ?_
      refine lv_goto (tgt := 581) hx hb dL_law_577 (by decide) ?_
      refine x_calll (w1 := fun (u : Unit) => [(h1, .inr (11, mF zb (upd xI0 54 0) xJ0))]) (wr := [(h0, .inr (10, [.ref (za 0), .ref (za 2), .ref (za 8), .ref (za 13), .ref (za 16), .ref (za 22), .ref (za 25), .ref (za 28), .ref (za 34), .ref (za 40), .ref (za 47)])), ((za 28), .inr (7, [.ref (za 29), .ref (za 30), .ref (za 31), .ref (za 32), .ref (za 33), .int (-1), .int 0, .int 0, .int 0, .int 0, .int 0, .int 0, .long 0]))]) (ws' := fun (u : Unit) => [(h0, .inr (10, [.ref (za 0), .ref (za 2), .ref (za 8), .ref (za 13), .ref (za 16), .ref (za 22), .ref (za 25), .ref (za 28), .ref (za 34), .ref (za 40), .ref (za 47)])), ((za 28), .inr (7, [.ref (za 29), .ref (za 30), .ref (za 31), .ref (za 32), .ref (za 33), .int (-1), .int 0, .int 0, .int 0, .int 0, .int 0, .int 0, .long 0])), (h1, .inr (11, mF zb (upd xI0 54 0) xJ0))]) (va_runV (As := [.int (xs (Int32.toNatClampNeg 1)), .int (xs (Int32.toNatClampNeg 2)), .int 1]) (rest := [.long (-2000000000)]) ⟨hx, hb, hml, hown, hts⟩ (m_forward0 l D y H.size h1 zb xI0 xJ0 (xs (Int32.toNatClampNeg 1)) (xs (Int32.toNatClampNeg 2)) 1) (cwV 3 hts gl_29 rfl rfl rfl (by decide +kernel) ⟨Nat.le_of_ble_eq_true rfl, Nat.le_of_ble_eq_true rfl⟩) (x_preV (q := (RX12, TX12, 85)) hK (x_subP hP [2] rfl) (x_subD hD [2] rfl (by decide)) (ci := 11) (q0 := 0) rfl rfl) rfl rfl hl.1 rfl (lv_room (Nat.le_of_ble_eq_true rfl)) dL_law_581 ⟨Nat.le_of_ble_eq_true rfl, Nat.le_of_ble_eq_true rfl⟩) hP hD hS hA [2] [0, 1] rfl rfl (by decide) (by decide) [0, 1, 2] (fun _ => rfl) (by decide) (fun r_12 u H locs hw hP hD hS => ?_)
      try dsimp only at hw
      obtain rfl : r_12 = (-2000000000) := hw
      have hP : va_P D vwCl [(h0, .inr (10, [.ref (za 0), .ref (za 2), .ref (za 8), .ref (za 13), .ref (za 16), .ref (za 22), .ref (za 25), .ref (za 28), .ref (za 34), .ref (za 40), .ref (za 47)])), ((za 28), .inr (7, [.ref (za 29), .ref (za 30), .ref (za 31), .ref (za 32), .ref (za 33), .int (-1), .int 0, .int 0, .int 0, .int 0, .int 0, .int 0, .long 0])), (h1, .inr (11, mF zb (upd xI0 54 0) xJ0))] H := hP
      have hD : va_D A [(h0, .inr (10, [.ref (za 0), .ref (za 2), .ref (za 8), .ref (za 13), .ref (za 16), .ref (za 22), .ref (za 25), .ref (za 28), .ref (za 34), .ref (za 40), .ref (za 47)])), ((za 28), .inr (7, [.ref (za 29), .ref (za 30), .ref (za 31), .ref (za 32), .ref (za 33), .int (-1), .int 0, .int 0, .int 0, .int 0, .int 0, .int 0, .long 0])), (h1, .inr (11, mF zb (upd xI0 54 0) xJ0))] := hD
      refine W.lcmp hx hb dL_law_584 ?_
      refine lv_if_eq (tgt := 958) hx hb dL_law_585 (by decide) (fun c_13 => ?_) (fun c_13 => ?_)
      · exact law_end l C0 hAl hbA hS (lv_sub hl [0, 1, 2, 3] rfl)
      · exact absurd (by decide) c_13
  · refine lv_iconst (v := 1) hx hb dL_law_549 (by decide) ?_
    refine lv_goto (tgt := 554) hx hb dL_law_550 (by decide) ?_
    refine x_calll (w1 := fun (u : Unit) => [(h0, .inr (10, [.ref (za 0), .ref (za 2), .ref (za 8), .ref (za 13), .ref (za 16), .ref (za 22), .ref (za 25), .ref (za 28), .ref (za 34), .ref (za 40), .ref (za 47)])), ((za 28), .inr (7, [.ref (za 29), .ref (za 30), .ref (za 31), .ref (za 32), .ref (za 33), .int (-1), .int 0, .int 0, .int 0, .int 0, .int 0, .int 0, .long 0]))]) (wr := [(h1, .inr (11, mF zb xI0 xJ0))]) (ws' := fun (u : Unit) => [(h0, .inr (10, [.ref (za 0), .ref (za 2), .ref (za 8), .ref (za 13), .ref (za 16), .ref (za 22), .ref (za 25), .ref (za 28), .ref (za 34), .ref (za 40), .ref (za 47)])), ((za 28), .inr (7, [.ref (za 29), .ref (za 30), .ref (za 31), .ref (za 32), .ref (za 33), .int (-1), .int 0, .int 0, .int 0, .int 0, .int 0, .int 0, .long 0])), (h1, .inr (11, mF zb xI0 xJ0))]) (va_runV (As := [.int (xs (Int32.toNatClampNeg 1)), .int (xs (Int32.toNatClampNeg 2)), .int 1]) (rest := []) ⟨hx, hb, hml, hown, hts⟩ (c_forward0 l D y H.size h0 (za 0) (za 2) (za 8) (za 13) (za 16) (za 22) (za 25) (za 28) (za 34) (za 40) (za 47) (za 29) (za 30) (za 31) (za 32) (za 33) (xs (Int32.toNatClampNeg 1)) (xs (Int32.toNatClampNeg 2)) 1) (cwV 3 hts gl_28 rfl rfl rfl (by decide +kernel) ⟨Nat.le_of_ble_eq_true rfl, Nat.le_of_ble_eq_true rfl⟩) (x_preV (q := (RX11, TX11, 11)) hK (x_subP hP [0, 1] rfl) (x_subD hD [0, 1] rfl (by decide)) (ci := 10) (q0 := 0) rfl rfl) rfl rfl hl.1 rfl (lv_room (Nat.le_of_ble_eq_true rfl)) dL_law_554 ⟨Nat.le_of_ble_eq_true rfl, Nat.le_of_ble_eq_true rfl⟩) hP hD hS hA [0, 1] [2] rfl rfl (by decide) (by decide) [1, 2, 0] (fun _ => rfl) (by decide) (fun r_14 u H locs hw hP hD hS => ?_)
    try dsimp only at hw
    obtain rfl : r_14 = (-2000000000) := hw
    have hP : va_P D vwCl [(h0, .inr (10, [.ref (za 0), .ref (za 2), .ref (za 8), .ref (za 13), .ref (za 16), .ref (za 22), .ref (za 25), .ref (za 28), .ref (za 34), .ref (za 40), .ref (za 47)])), ((za 28), .inr (7, [.ref (za 29), .ref (za 30), .ref (za 31), .ref (za 32), .ref (za 33), .int (-1), .int 0, .int 0, .int 0, .int 0, .int 0, .int 0, .long 0])), (h1, .inr (11, mF zb xI0 xJ0))] H := hP
    have hD : va_D A [(h0, .inr (10, [.ref (za 0), .ref (za 2), .ref (za 8), .ref (za 13), .ref (za 16), .ref (za 22), .ref (za 25), .ref (za 28), .ref (za 34), .ref (za 40), .ref (za 47)])), ((za 28), .inr (7, [.ref (za 29), .ref (za 30), .ref (za 31), .ref (za 32), .ref (za 33), .int (-1), .int 0, .int 0, .int 0, .int 0, .int 0, .int 0, .long 0])), (h1, .inr (11, mF zb xI0 xJ0))] := hD
    refine lv_aload_n hx hb dL_law_557 rfl (lv_at hl 1 rfl) ?_
    refine lv_aload_n hx hb dL_law_558 rfl (lv_at hl 3 rfl) ?_
    refine lv_iload_n hx hb dL_law_559 rfl (lv_at hl 0 rfl) ?_
    refine lv_iconst (v := 1) hx hb dL_law_560 (by decide) ?_
    refine lv_iadd hx hb dL_law_561 ?_
    refine lv_topi (fun i_15 ei_15 => ?_)
    obtain rfl : i_15 = 1 := ei_15.trans (by decide)
    refine va_sld hx hb hX hbl hbA hS (x_in (by decide) (by decide)) dL_law_562 ?_
    refine lv_aload_n hx hb dL_law_563 rfl (lv_at hl 3 rfl) ?_
    refine lv_iload_n hx hb dL_law_564 rfl (lv_at hl 0 rfl) ?_
    refine lv_iconst (v := 2) hx hb dL_law_565 (by decide) ?_
    refine lv_iadd hx hb dL_law_566 ?_
    refine lv_topi (fun i_16 ei_16 => ?_)
    obtain rfl : i_16 = 2 := ei_16.trans (by decide)
    refine va_sld hx hb hX hbl hbA hS (x_in (by decide) (by decide)) dL_law_567 ?_
    refine lv_aload_n hx hb dL_law_568 rfl (lv_at hl 3 rfl) ?_
    refine lv_iload_n hx hb dL_law_569 rfl (lv_at hl 0 rfl) ?_
    refine lv_iconst (v := 3) hx hb dL_law_570 (by decide) ?_
    refine lv_iadd hx hb dL_law_571 ?_
    refine lv_topi (fun i_17 ei_17 => ?_)
    obtain rfl : i_17 = 3 := ei_17.trans (by decide)
    refine va_sld hx hb hX hbl hbA hS (x_in (by decide) (by decide)) dL_law_572 ?_
    refine lv_if_eq (tgt := 580) hx hb dL_law_573 (by decide) (fun c_18 => ?_) (fun c_18 => ?_)
    · refine lv_iconst (v := 0) hx hb dL_law_580 (by decide) ?_
      refine x_calll (w1 := fun (u : Unit) => [(h1, .inr (11, mF zb (upd xI0 54 0) xJ0))]) (wr := [(h0, .inr (10, [.ref (za 0), .ref (za 2), .ref (za 8), .ref (za 13), .ref (za 16), .ref (za 22), .ref (za 25), .ref (za 28), .ref (za 34), .ref (za 40), .ref (za 47)])), ((za 28), .inr (7, [.ref (za 29), .ref (za 30), .ref (za 31), .ref (za 32), .ref (za 33), .int (-1), .int 0, .int 0, .int 0, .int 0, .int 0, .int 0, .long 0]))]) (ws' := fun (u : Unit) => [(h0, .inr (10, [.ref (za 0), .ref (za 2), .ref (za 8), .ref (za 13), .ref (za 16), .ref (za 22), .ref (za 25), .ref (za 28), .ref (za 34), .ref (za 40), .ref (za 47)])), ((za 28), .inr (7, [.ref (za 29), .ref (za 30), .ref (za 31), .ref (za 32), .ref (za 33), .int (-1), .int 0, .int 0, .int 0, .int 0, .int 0, .int 0, .long 0])), (h1, .inr (11, mF zb (upd xI0 54 0) xJ0))]) (va_runV (As := [.int (xs (Int32.toNatClampNeg 1)), .int (xs (Int32.toNatClampNeg 2)), .int 0]) (rest := [.long (-2000000000)]) ⟨hx, hb, hml, hown, hts⟩ (m_forward0 l D y H.size h1 zb xI0 xJ0 (xs (Int32.toNatClampNeg 1)) (xs (Int32.toNatClampNeg 2)) 0) (cwV 3 hts gl_29 rfl rfl rfl (by decide +kernel) ⟨Nat.le_of_ble_eq_true rfl, Nat.le_of_ble_eq_true rfl⟩) (x_preV (q := (RX12, TX12, 85)) hK (x_subP hP [2] rfl) (x_subD hD [2] rfl (by decide)) (ci := 11) (q0 := 0) rfl rfl) rfl rfl hl.1 rfl (lv_room (Nat.le_of_ble_eq_true rfl)) dL_law_581 ⟨Nat.le_of_ble_eq_true rfl, Nat.le_of_ble_eq_true rfl⟩) hP hD hS hA [2] [0, 1] rfl rfl (by decide) (by decide) [0, 1, 2] (fun _ => rfl) (by decide) (fun r_19 u H locs hw hP hD hS => ?_)
      try dsimp only at hw
      obtain rfl : r_19 = (-2000000000) := hw
      have hP : va_P D vwCl [(h0, .inr (10, [.ref (za 0), .ref (za 2), .ref (za 8), .ref (za 13), .ref (za 16), .ref (za 22), .ref (za 25), .ref (za 28), .ref (za 34), .ref (za 40), .ref (za 47)])), ((za 28), .inr (7, [.ref (za 29), .ref (za 30), .ref (za 31), .ref (za 32), .ref (za 33), .int (-1), .int 0, .int 0, .int 0, .int 0, .int 0, .int 0, .long 0])), (h1, .inr (11, mF zb (upd xI0 54 0) xJ0))] H := hP
      have hD : va_D A [(h0, .inr (10, [.ref (za 0), .ref (za 2), .ref (za 8), .ref (za 13), .ref (za 16), .ref (za 22), .ref (za 25), .ref (za 28), .ref (za 34), .ref (za 40), .ref (za 47)])), ((za 28), .inr (7, [.ref (za 29), .ref (za 30), .ref (za 31), .ref (za 32), .ref (za 33), .int (-1), .int 0, .int 0, .int 0, .int 0, .int 0, .int 0, .long 0])), (h1, .inr (11, mF zb (upd xI0 54 0) xJ0))] := hD
      refine W.lcmp hx hb dL_law_584 ?_
      refine lv_if_eq (tgt := 958) hx hb dL_law_585 (by decide) (fun c_20 => ?_) (fun c_20 => ?_)
      · exact law_end l C0 hAl hbA hS (lv_sub hl [0, 1, 2, 3] rfl)
      · exact absurd (by decide) c_20
    · refine lv_iconst (v := 1) hx hb dL_law_576 (by decide) ?_
      refine lv_goto (tgt := 581) hx hb dL_law_577 (by decide) ?_
      refine x_calll (w1 := fun (u : Unit) => [(h1, .inr (11, mF zb (upd xI0 54 0) xJ0))]) (wr := [(h0, .inr (10, [.ref (za 0), .ref (za 2), .ref (za 8), .ref (za 13), .ref (za 16), .ref (za 22), .ref (za 25), .ref (za 28), .ref (za 34), .ref (za 40), .ref (za 47)])), ((za 28), .inr (7, [.ref (za 29), .ref (za 30), .ref (za 31), .ref (za 32), .ref (za 33), .int (-1), .int 0, .int 0, .int 0, .int 0, .int 0, .int 0, .long 0]))]) (ws' := fun (u : Unit) => [(h0, .inr (10, [.ref (za 0), .ref (za 2), .ref (za 8), .ref (za 13), .ref (za 16), .ref (za 22), .ref (za 25), .ref (za 28), .ref (za 34), .ref (za 40), .ref (za 47)])), ((za 28), .inr (7, [.ref (za 29), .ref (za 30), .ref (za 31), .ref (za 32), .ref (za 33), .int (-1), .int 0, .int 0, .int 0, .int 0, .int 0, .int 0, .long 0])), (h1, .inr (11, mF zb (upd xI0 54 0) xJ0))]) (va_runV (As := [.int (xs (Int32.toNatClampNeg 1)), .int (xs (Int32.toNatClampNeg 2)), .int 1]) (rest := [.long (-2000000000)]) ⟨hx, hb, hml, hown, hts⟩ (m_forward0 l D y H.size h1 zb xI0 xJ0 (xs (Int32.toNatClampNeg 1)) (xs (Int32.toNatClampNeg 2)) 1) (cwV 3 hts gl_29 rfl rfl rfl (by decide +kernel) ⟨Nat.le_of_ble_eq_true rfl, Nat.le_of_ble_eq_true rfl⟩) (x_preV (q := (RX12, TX12, 85)) hK (x_subP hP [2] rfl) (x_subD hD [2] rfl (by decide)) (ci := 11) (q0 := 0) rfl rfl) rfl rfl hl.1 rfl (lv_room (Nat.le_of_ble_eq_true rfl)) dL_law_581 ⟨Nat.le_of_ble_eq_true rfl, Nat.le_of_ble_eq_true rfl⟩) hP hD hS hA [2] [0, 1] rfl rfl (by decide) (by decide) [0, 1, 2] (fun _ => rfl) (by decide) (fun r_21 u H locs hw hP hD hS => ?_)
      try dsimp only at hw
      obtain rfl : r_21 = (-2000000000) := hw
      have hP : va_P D vwCl [(h0, .inr (10, [.ref (za 0), .ref (za 2), .ref (za 8), .ref (za 13), .ref (za 16), .ref (za 22), .ref (za 25), .ref (za 28), .ref (za 34), .ref (za 40), .ref (za 47)])), ((za 28), .inr (7, [.ref (za 29), .ref (za 30), .ref (za 31), .ref (za 32), .ref (za 33), .int (-1), .int 0, .int 0, .int 0, .int 0, .int 0, .int 0, .long 0])), (h1, .inr (11, mF zb (upd xI0 54 0) xJ0))] H := hP
      have hD : va_D A [(h0, .inr (10, [.ref (za 0), .ref (za 2), .ref (za 8), .ref (za 13), .ref (za 16), .ref (za 22), .ref (za 25), .ref (za 28), .ref (za 34), .ref (za 40), .ref (za 47)])), ((za 28), .inr (7, [.ref (za 29), .ref (za 30), .ref (za 31), .ref (za 32), .ref (za 33), .int (-1), .int 0, .int 0, .int 0, .int 0, .int 0, .int 0, .long 0])), (h1, .inr (11, mF zb (upd xI0 54 0) xJ0))] := hD
      refine W.lcmp hx hb dL_law_584 ?_
      refine lv_if_eq (tgt := 958) hx hb dL_law_585 (by decide) (fun c_22 => ?_) (fun c_22 => ?_)
      · exact law_end l C0 hAl hbA hS (lv_sub hl [0, 1, 2, 3] rfl)
      · exact absurd (by decide) c_22
set_option maxHeartbeats 4000000 in
set_option maxRecDepth 100000 in
theorem law_case_14 {D : va_G} {y : Nat → ClassId} {za zb r1 r2 : Nat → Nat} {zw : Nat → Nat → Int32} {ow ub : Nat → Int64} {p : Program} {e : Env} {s : State} {m : MethodId} {below : List Frame} {meth : Method} {c : Code} (l : Launch) {b : Nat} {xs : Nat → Int32} {A : Nat → Prop} {H : Heap} {locs : List Loc} {ls : Array Slot} {h0 h1 : Nat} (C0 : lw_At p s m meth c b 6 xs) (hAl : ∀ q, A q → s.heap.size ≤ q) (hbA : ¬ A b) (hS : va_S A s.heap H locs) (hl : lv_has ls 4 [(3, .int 0), (2, .ref h1), (1, .ref h0), (0, .ref b)]) (hA : ∀ q, s.heap.size ≤ q → A q) (hK : va_K D vwCl (xT y) s) (hP : va_P D vwCl (mW y h1 (zb, zw, ub) ++ xW y h0 (za, r1, r2, ow)) H) (hD : va_D A (mW y h1 (zb, zw, ub) ++ xW y h0 (za, r1, r2, ow))) : W p l e room_1 s m #[Value.ref b] below meth c H locs 135 68060 (lw_Z below #[Value.ref b] s) (F0 m 590 ls []) := by
  obtain ⟨hx, hb, hr, hml, hown, hts, hX, hbl, hlocks, hgv⟩ := id C0
  have hown : s.vm.findClass RL = some m.cls := hown
  have hP : va_P D vwCl [(h0, .inr (10, [.ref (za 0), .ref (za 2), .ref (za 8), .ref (za 13), .ref (za 16), .ref (za 22), .ref (za 25), .ref (za 28), .ref (za 34), .ref (za 40), .ref (za 47)])), ((za 28), .inr (7, [.ref (za 29), .ref (za 30), .ref (za 31), .ref (za 32), .ref (za 33), .int (-1), .int 0, .int 0, .int 0, .int 0, .int 0, .int 0, .long 0])), (h1, .inr (11, mF zb xI0 xJ0))] H := x_subP hP [58, 79, 0] rfl
  have hD : va_D A [(h0, .inr (10, [.ref (za 0), .ref (za 2), .ref (za 8), .ref (za 13), .ref (za 16), .ref (za 22), .ref (za 25), .ref (za 28), .ref (za 34), .ref (za 40), .ref (za 47)])), ((za 28), .inr (7, [.ref (za 29), .ref (za 30), .ref (za 31), .ref (za 32), .ref (za 33), .int (-1), .int 0, .int 0, .int 0, .int 0, .int 0, .int 0, .long 0])), (h1, .inr (11, mF zb xI0 xJ0))] := x_subD hD [58, 79, 0] rfl (by decide)
  refine lv_aload_n hx hb dL_law_590 rfl (lv_at hl 2 rfl) ?_
  refine lv_aload_n hx hb dL_law_591 rfl (lv_at hl 3 rfl) ?_
  refine lv_iload_n hx hb dL_law_592 rfl (lv_at hl 0 rfl) ?_
  refine lv_iconst (v := 1) hx hb dL_law_593 (by decide) ?_
  refine lv_iadd hx hb dL_law_594 ?_
  refine lv_topi (fun i_1 ei_1 => ?_)
  obtain rfl : i_1 = 1 := ei_1.trans (by decide)
  refine va_sld hx hb hX hbl hbA hS (x_in (by decide) (by decide)) dL_law_595 ?_
  refine lv_aload_n hx hb dL_law_596 rfl (lv_at hl 3 rfl) ?_
  refine lv_iload_n hx hb dL_law_597 rfl (lv_at hl 0 rfl) ?_
  refine lv_iconst (v := 2) hx hb dL_law_598 (by decide) ?_
  refine lv_iadd hx hb dL_law_599 ?_
  refine lv_topi (fun i_2 ei_2 => ?_)
  obtain rfl : i_2 = 2 := ei_2.trans (by decide)
  refine va_sld hx hb hX hbl hbA hS (x_in (by decide) (by decide)) dL_law_600 ?_
  refine lv_aload_n hx hb dL_law_601 rfl (lv_at hl 3 rfl) ?_
  refine lv_iload_n hx hb dL_law_602 rfl (lv_at hl 0 rfl) ?_
  refine lv_iconst (v := 3) hx hb dL_law_603 (by decide) ?_
  refine lv_iadd hx hb dL_law_604 ?_
  refine lv_topi (fun i_3 ei_3 => ?_)
  obtain rfl : i_3 = 3 := ei_3.trans (by decide)
  refine va_sld hx hb hX hbl hbA hS (x_in (by decide) (by decide)) dL_law_605 ?_
  refine lv_if_eq (tgt := 613) hx hb dL_law_606 (by decide) (fun c_4 => ?_) (fun c_4 => ?_)
  · refine lv_iconst (v := 0) hx hb dL_law_613 (by decide) ?_
    refine x_calll (w1 := fun (u : Unit) => [(h0, .inr (10, [.ref (za 0), .ref (za 2), .ref (za 8), .ref (za 13), .ref (za 16), .ref (za 22), .ref (za 25), .ref (za 28), .ref (za 34), .ref (za 40), .ref (za 47)])), ((za 28), .inr (7, [.ref (za 29), .ref (za 30), .ref (za 31), .ref (za 32), .ref (za 33), .int (-1), .int 0, .int 0, .int 0, .int 0, .int 0, .int 0, .long 0]))]) (wr := [(h1, .inr (11, mF zb xI0 xJ0))]) (ws' := fun (u : Unit) => [(h0, .inr (10, [.ref (za 0), .ref (za 2), .ref (za 8), .ref (za 13), .ref (za 16), .ref (za 22), .ref (za 25), .ref (za 28), .ref (za 34), .ref (za 40), .ref (za 47)])), ((za 28), .inr (7, [.ref (za 29), .ref (za 30), .ref (za 31), .ref (za 32), .ref (za 33), .int (-1), .int 0, .int 0, .int 0, .int 0, .int 0, .int 0, .long 0])), (h1, .inr (11, mF zb xI0 xJ0))]) (va_runV (As := [.int (xs (Int32.toNatClampNeg 1)), .int (xs (Int32.toNatClampNeg 2)), .int 0]) (rest := []) ⟨hx, hb, hml, hown, hts⟩ (c_backward0 l D y H.size h0 (za 0) (za 2) (za 8) (za 13) (za 16) (za 22) (za 25) (za 28) (za 34) (za 40) (za 47) (za 29) (za 30) (za 31) (za 32) (za 33) (xs (Int32.toNatClampNeg 1)) (xs (Int32.toNatClampNeg 2)) 0) (cwV 3 hts gl_30 rfl rfl rfl (by decide +kernel) ⟨Nat.le_of_ble_eq_true rfl, Nat.le_of_ble_eq_true rfl⟩) (x_preV (q := (RX11, TX11, 11)) hK (x_subP hP [0, 1] rfl) (x_subD hD [0, 1] rfl (by decide)) (ci := 10) (q0 := 0) rfl rfl) rfl rfl hl.1 rfl (lv_room (Nat.le_of_ble_eq_true rfl)) dL_law_614 ⟨Nat.le_of_ble_eq_true rfl, Nat.le_of_ble_eq_true rfl⟩) hP hD hS hA [0, 1] [2] rfl rfl (by decide) (by decide) [1, 2, 0] (fun _ => rfl) (by decide) (fun r_5 u H locs hw hP hD hS => ?_)
    try dsimp only at hw
    obtain rfl : r_5 = (-2000000000) := hw
    have hP : va_P D vwCl [(h0, .inr (10, [.ref (za 0), .ref (za 2), .ref (za 8), .ref (za 13), .ref (za 16), .ref (za 22), .ref (za 25), .ref (za 28), .ref (za 34), .ref (za 40), .ref (za 47)])), ((za 28), .inr (7, [.ref (za 29), .ref (za 30), .ref (za 31), .ref (za 32), .ref (za 33), .int (-1), .int 0, .int 0, .int 0, .int 0, .int 0, .int 0, .long 0])), (h1, .inr (11, mF zb xI0 xJ0))] H := hP
    have hD : va_D A [(h0, .inr (10, [.ref (za 0), .ref (za 2), .ref (za 8), .ref (za 13), .ref (za 16), .ref (za 22), .ref (za 25), .ref (za 28), .ref (za 34), .ref (za 40), .ref (za 47)])), ((za 28), .inr (7, [.ref (za 29), .ref (za 30), .ref (za 31), .ref (za 32), .ref (za 33), .int (-1), .int 0, .int 0, .int 0, .int 0, .int 0, .int 0, .long 0])), (h1, .inr (11, mF zb xI0 xJ0))] := hD
    refine lv_aload_n hx hb dL_law_617 rfl (lv_at hl 1 rfl) ?_
    refine lv_aload_n hx hb dL_law_618 rfl (lv_at hl 3 rfl) ?_
    refine lv_iload_n hx hb dL_law_619 rfl (lv_at hl 0 rfl) ?_
    refine lv_iconst (v := 1) hx hb dL_law_620 (by decide) ?_
    refine lv_iadd hx hb dL_law_621 ?_
    refine lv_topi (fun i_6 ei_6 => ?_)
    obtain rfl : i_6 = 1 := ei_6.trans (by decide)
    refine va_sld hx hb hX hbl hbA hS (x_in (by decide) (by decide)) dL_law_622 ?_
    refine lv_aload_n hx hb dL_law_623 rfl (lv_at hl 3 rfl) ?_
    refine lv_iload_n hx hb dL_law_624 rfl (lv_at hl 0 rfl) ?_
    refine lv_iconst (v := 2) hx hb dL_law_625 (by decide) ?_
    refine lv_iadd hx hb dL_law_626 ?_
    refine lv_topi (fun i_7 ei_7 => ?_)
    obtain rfl : i_7 = 2 := ei_7.trans (by decide)
    refine va_sld hx hb hX hbl hbA hS (x_in (by decide) (by decide)) dL_law_627 ?_
    refine lv_aload_n hx hb dL_law_628 rfl (lv_at hl 3 rfl) ?_
    refine lv_iload_n hx hb dL_law_629 rfl (lv_at hl 0 rfl) ?_
    refine lv_iconst (v := 3) hx hb dL_law_630 (by decide) ?_
    refine lv_iadd hx hb dL_law_631 ?_
    refine lv_topi (fun i_8 ei_8 => ?_)
    obtain rfl : i_8 = 3 := ei_8.trans (by decide)
    refine va_sld hx hb hX hbl hbA hS (x_in (by decide) (by decide)) dL_law_632 ?_
    refine lv_if_eq (tgt := 640) hx hb dL_law_633 (by decide) (fun c_9 => ?_) (fun c_9 => ?_)
    · refine lv_iconst (v := 0) hx hb dL_law_640 (by decide) ?_
      refine x_calll (w1 := fun (u : Unit) => [(h1, .inr (11, mF zb (upd xI0 54 0) xJ0))]) (wr := [(h0, .inr (10, [.ref (za 0), .ref (za 2), .ref (za 8), .ref (za 13), .ref (za 16), .ref (za 22), .ref (za 25), .ref (za 28), .ref (za 34), .ref (za 40), .ref (za 47)])), ((za 28), .inr (7, [.ref (za 29), .ref (za 30), .ref (za 31), .ref (za 32), .ref (za 33), .int (-1), .int 0, .int 0, .int 0, .int 0, .int 0, .int 0, .long 0]))]) (ws' := fun (u : Unit) => [(h0, .inr (10, [.ref (za 0), .ref (za 2), .ref (za 8), .ref (za 13), .ref (za 16), .ref (za 22), .ref (za 25), .ref (za 28), .ref (za 34), .ref (za 40), .ref (za 47)])), ((za 28), .inr (7, [.ref (za 29), .ref (za 30), .ref (za 31), .ref (za 32), .ref (za 33), .int (-1), .int 0, .int 0, .int 0, .int 0, .int 0, .int 0, .long 0])), (h1, .inr (11, mF zb (upd xI0 54 0) xJ0))]) (va_runV (As := [.int (xs (Int32.toNatClampNeg 1)), .int (xs (Int32.toNatClampNeg 2)), .int 0]) (rest := [.long (-2000000000)]) ⟨hx, hb, hml, hown, hts⟩ (m_backward0 l D y H.size h1 zb xI0 xJ0 (xs (Int32.toNatClampNeg 1)) (xs (Int32.toNatClampNeg 2)) 0) (cwV 3 hts gl_31 rfl rfl rfl (by decide +kernel) ⟨Nat.le_of_ble_eq_true rfl, Nat.le_of_ble_eq_true rfl⟩) (x_preV (q := (RX12, TX12, 85)) hK (x_subP hP [2] rfl) (x_subD hD [2] rfl (by decide)) (ci := 11) (q0 := 0) rfl rfl) rfl rfl hl.1 rfl (lv_room (Nat.le_of_ble_eq_true rfl)) dL_law_641 ⟨Nat.le_of_ble_eq_true rfl, Nat.le_of_ble_eq_true rfl⟩) hP hD hS hA [2] [0, 1] rfl rfl (by decide) (by decide) [0, 1, 2] (fun _ => rfl) (by decide) (fun r_10 u H locs hw hP hD hS => ?_)
      try dsimp only at hw
      obtain rfl : r_10 = (-2000000000) := hw
      have hP : va_P D vwCl [(h0, .inr (10, [.ref (za 0), .ref (za 2), .ref (za 8), .ref (za 13), .ref (za 16), .ref (za 22), .ref (za 25), .ref (za 28), .ref (za 34), .ref (za 40), .ref (za 47)])), ((za 28), .inr (7, [.ref (za 29), .ref (za 30), .ref (za 31), .ref (za 32), .ref (za 33), .int (-1), .int 0, .int 0, .int 0, .int 0, .int 0, .int 0, .long 0])), (h1, .inr (11, mF zb (upd xI0 54 0) xJ0))] H := hP
      have hD : va_D A [(h0, .inr (10, [.ref (za 0), .ref (za 2), .ref (za 8), .ref (za 13), .ref (za 16), .ref (za 22), .ref (za 25), .ref (za 28), .ref (za 34), .ref (za 40), .ref (za 47)])), ((za 28), .inr (7, [.ref (za 29), .ref (za 30), .ref (za 31), .ref (za 32), .ref (za 33), .int (-1), .int 0, .int 0, .int 0, .int 0, .int 0, .int 0, .long 0])), (h1, .inr (11, mF zb (upd xI0 54 0) xJ0))] := hD
      refine W.lcmp hx hb dL_law_644 ?_
      refine lv_if_eq (tgt := 958) hx hb dL_law_645 (by decide) (fun c_11 => ?_) (fun c_11 => ?_)
      · exact law_end l C0 hAl hbA hS (lv_sub hl [0, 1, 2, 3] rfl)
      · exact absurd (by decide) c_11
    · refine lv_iconst (v := 1) hx hb dL_law_636 (by decide) ?_
      refine lv_goto (tgt := 641) hx hb dL_law_637 (by decide) ?_
      refine x_calll (w1 := fun (u : Unit) => [(h1, .inr (11, mF zb (upd xI0 54 0) xJ0))]) (wr := [(h0, .inr (10, [.ref (za 0), .ref (za 2), .ref (za 8), .ref (za 13), .ref (za 16), .ref (za 22), .ref (za 25), .ref (za 28), .ref (za 34), .ref (za 40), .ref (za 47)])), ((za 28), .inr (7, [.ref (za 29), .ref (za 30), .ref (za 31), .ref (za 32), .ref (za 33), .int (-1), .int 0, .int 0, .int 0, .int 0, .int 0, .int 0, .long 0]))]) (ws' := fun (u : Unit) => [(h0, .inr (10, [.ref (za 0), .ref (za 2), .ref (za 8), .ref (za 13), .ref (za 16), .ref (za 22), .ref (za 25), .ref (za 28), .ref (za 34), .ref (za 40), .ref (za 47)])), ((za 28), .inr (7, [.ref (za 29), .ref (za 30), .ref (za 31), .ref (za 32), .ref (za 33), .int (-1), .int 0, .int 0, .int 0, .int 0, .int 0, .int 0, .long 0])), (h1, .inr (11, mF zb (upd xI0 54 0) xJ0))]) (va_runV (As := [.int (xs (Int32.toNatClampNeg 1)), .int (xs (Int32.toNatClampNeg 2)), .int 1]) (rest := [.long (-2000000000)]) ⟨hx, hb, hml, hown, hts⟩ (m_backward0 l D y H.size h1 zb xI0 xJ0 (xs (Int32.toNatClampNeg 1)) (xs (Int32.toNatClampNeg 2)) 1) (cwV 3 hts gl_31 rfl rfl rfl (by decide +kernel) ⟨Nat.le_of_ble_eq_true rfl, Nat.le_of_ble_eq_true rfl⟩) (x_preV (q := (RX12, TX12, 85)) hK (x_subP hP [2] rfl) (x_subD hD [2] rfl (by decide)) (ci := 11) (q0 := 0) rfl rfl) rfl rfl hl.1 rfl (lv_room (Nat.le_of_ble_eq_true rfl)) dL_law_641 ⟨Nat.le_of_ble_eq_true rfl, Nat.le_of_ble_eq_true rfl⟩) hP hD hS hA [2] [0, 1] rfl rfl (by decide) (by decide) [0, 1, 2] (fun _ => rfl) (by decide) (fun r_12 u H locs hw hP hD hS => ?_)
      try dsimp only at hw
      obtain rfl : r_12 = (-2000000000) := hw
      have hP : va_P D vwCl [(h0, .inr (10, [.ref (za 0), .ref (za 2), .ref (za 8), .ref (za 13), .ref (za 16), .ref (za 22), .ref (za 25), .ref (za 28), .ref (za 34), .ref (za 40), .ref (za 47)])), ((za 28), .inr (7, [.ref (za 29), .ref (za 30), .ref (za 31), .ref (za 32), .ref (za 33), .int (-1), .int 0, .int 0, .int 0, .int 0, .int 0, .int 0, .long 0])), (h1, .inr (11, mF zb (upd xI0 54 0) xJ0))] H := hP
      have hD : va_D A [(h0, .inr (10, [.ref (za 0), .ref (za 2), .ref (za 8), .ref (za 13), .ref (za 16), .ref (za 22), .ref (za 25), .ref (za 28), .ref (za 34), .ref (za 40), .ref (za 47)])), ((za 28), .inr (7, [.ref (za 29), .ref (za 30), .ref (za 31), .ref (za 32), .ref (za 33), .int (-1), .int 0, .int 0, .int 0, .int 0, .int 0, .int 0, .long 0])), (h1, .inr (11, mF zb (upd xI0 54 0) xJ0))] := hD
      refine W.lcmp hx hb dL_law_644 ?_
      refine lv_if_eq (tgt := 958) hx hb dL_law_645 (by decide) (fun c_13 => ?_) (fun c_13 => ?_)
      · exact law_end l C0 hAl hbA hS (lv_sub hl [0, 1, 2, 3] rfl)
      · exact absurd (by decide) c_13
  · refine lv_iconst (v := 1) hx hb dL_law_609 (by decide) ?_
    refine lv_goto (tgt := 614) hx hb dL_law_610 (by decide) ?_
    refine x_calll (w1 := fun (u : Unit) => [(h0, .inr (10, [.ref (za 0), .ref (za 2), .ref (za 8), .ref (za 13), .ref (za 16), .ref (za 22), .ref (za 25), .ref (za 28), .ref (za 34), .ref (za 40), .ref (za 47)])), ((za 28), .inr (7, [.ref (za 29), .ref (za 30), .ref (za 31), .ref (za 32), .ref (za 33), .int (-1), .int 0, .int 0, .int 0, .int 0, .int 0, .int 0, .long 0]))]) (wr := [(h1, .inr (11, mF zb xI0 xJ0))]) (ws' := fun (u : Unit) => [(h0, .inr (10, [.ref (za 0), .ref (za 2), .ref (za 8), .ref (za 13), .ref (za 16), .ref (za 22), .ref (za 25), .ref (za 28), .ref (za 34), .ref (za 40), .ref (za 47)])), ((za 28), .inr (7, [.ref (za 29), .ref (za 30), .ref (za 31), .ref (za 32), .ref (za 33), .int (-1), .int 0, .int 0, .int 0, .int 0, .int 0, .int 0, .long 0])), (h1, .inr (11, mF zb xI0 xJ0))]) (va_runV (As := [.int (xs (Int32.toNatClampNeg 1)), .int (xs (Int32.toNatClampNeg 2)), .int 1]) (rest := []) ⟨hx, hb, hml, hown, hts⟩ (c_backward0 l D y H.size h0 (za 0) (za 2) (za 8) (za 13) (za 16) (za 22) (za 25) (za 28) (za 34) (za 40) (za 47) (za 29) (za 30) (za 31) (za 32) (za 33) (xs (Int32.toNatClampNeg 1)) (xs (Int32.toNatClampNeg 2)) 1) (cwV 3 hts gl_30 rfl rfl rfl (by decide +kernel) ⟨Nat.le_of_ble_eq_true rfl, Nat.le_of_ble_eq_true rfl⟩) (x_preV (q := (RX11, TX11, 11)) hK (x_subP hP [0, 1] rfl) (x_subD hD [0, 1] rfl (by decide)) (ci := 10) (q0 := 0) rfl rfl) rfl rfl hl.1 rfl (lv_room (Nat.le_of_ble_eq_true rfl)) dL_law_614 ⟨Nat.le_of_ble_eq_true rfl, Nat.le_of_ble_eq_true rfl⟩) hP hD hS hA [0, 1] [2] rfl rfl (by decide) (by decide) [1, 2, 0] (fun _ => rfl) (by decide) (fun r_14 u H locs hw hP hD hS => ?_)
    try dsimp only at hw
    obtain rfl : r_14 = (-2000000000) := hw
    have hP : va_P D vwCl [(h0, .inr (10, [.ref (za 0), .ref (za 2), .ref (za 8), .ref (za 13), .ref (za 16), .ref (za 22), .ref (za 25), .ref (za 28), .ref (za 34), .ref (za 40), .ref (za 47)])), ((za 28), .inr (7, [.ref (za 29), .ref (za 30), .ref (za 31), .ref (za 32), .ref (za 33), .int (-1), .int 0, .int 0, .int 0, .int 0, .int 0, .int 0, .long 0])), (h1, .inr (11, mF zb xI0 xJ0))] H := hP
    have hD : va_D A [(h0, .inr (10, [.ref (za 0), .ref (za 2), .ref (za 8), .ref (za 13), .ref (za 16), .ref (za 22), .ref (za 25), .ref (za 28), .ref (za 34), .ref (za 40), .ref (za 47)])), ((za 28), .inr (7, [.ref (za 29), .ref (za 30), .ref (za 31), .ref (za 32), .ref (za 33), .int (-1), .int 0, .int 0, .int 0, .int 0, .int 0, .int 0, .long 0])), (h1, .inr (11, mF zb xI0 xJ0))] := hD
    refine lv_aload_n hx hb dL_law_617 rfl (lv_at hl 1 rfl) ?_
    refine lv_aload_n hx hb dL_law_618 rfl (lv_at hl 3 rfl) ?_
    refine lv_iload_n hx hb dL_law_619 rfl (lv_at hl 0 rfl) ?_
    refine lv_iconst (v := 1) hx hb dL_law_620 (by decide) ?_
    refine lv_iadd hx hb dL_law_621 ?_
    refine lv_topi (fun i_15 ei_15 => ?_)
    obtain rfl : i_15 = 1 := ei_15.trans (by decide)
    refine va_sld hx hb hX hbl hbA hS (x_in (by decide) (by decide)) dL_law_622 ?_
    refine lv_aload_n hx hb dL_law_623 rfl (lv_at hl 3 rfl) ?_
    refine lv_iload_n hx hb dL_law_624 rfl (lv_at hl 0 rfl) ?_
    refine lv_iconst (v := 2) hx hb dL_law_625 (by decide) ?_
    refine lv_iadd hx hb dL_law_626 ?_
    refine lv_topi (fun i_16 ei_16 => ?_)
    obtain rfl : i_16 = 2 := ei_16.trans (by decide)
    refine va_sld hx hb hX hbl hbA hS (x_in (by decide) (by decide)) dL_law_627 ?_
    refine lv_aload_n hx hb dL_law_628 rfl (lv_at hl 3 rfl) ?_
    refine lv_iload_n hx hb dL_law_629 rfl (lv_at hl 0 rfl) ?_
    refine lv_iconst (v := 3) hx hb dL_law_630 (by decide) ?_
    refine lv_iadd hx hb dL_law_631 ?_
    refine lv_topi (fun i_17 ei_17 => ?_)
    obtain rfl : i_17 = 3 := ei_17.trans (by decide)
    refine va_sld hx hb hX hbl hbA hS (x_in (by decide) (by decide)) dL_law_632 ?_
    refine lv_if_eq (tgt := 640) hx hb dL_law_633 (by decide) (fun c_18 => ?_) (fun c_18 => ?_)
    · refine lv_iconst (v := 0) hx hb dL_law_640 (by decide) ?_
      refine x_calll (w1 := fun (u : Unit) => [(h1, .inr (11, mF zb (upd xI0 54 0) xJ0))]) (wr := [(h0, .inr (10, [.ref (za 0), .ref (za 2), .ref (za 8), .ref (za 13), .ref (za 16), .ref (za 22), .ref (za 25), .ref (za 28), .ref (za 34), .ref (za 40), .ref (za 47)])), ((za 28), .inr (7, [.ref (za 29), .ref (za 30), .ref (za 31), .ref (za 32), .ref (za 33), .int (-1), .int 0, .int 0, .int 0, .int 0, .int 0, .int 0, .long 0]))]) (ws' := fun (u : Unit) => [(h0, .inr (10, [.ref (za 0), .ref (za 2), .ref (za 8), .ref (za 13), .ref (za 16), .ref (za 22), .ref (za 25), .ref (za 28), .ref (za 34), .ref (za 40), .ref (za 47)])), ((za 28), .inr (7, [.ref (za 29), .ref (za 30), .ref (za 31), .ref (za 32), .ref (za 33), .int (-1), .int 0, .int 0, .int 0, .int 0, .int 0, .int 0, .long 0])), (h1, .inr (11, mF zb (upd xI0 54 0) xJ0))]) (va_runV (As := [.int (xs (Int32.toNatClampNeg 1)), .int (xs (Int32.toNatClampNeg 2)), .int 0]) (rest := [.long (-2000000000)]) ⟨hx, hb, hml, hown, hts⟩ (m_backward0 l D y H.size h1 zb xI0 xJ0 (xs (Int32.toNatClampNeg 1)) (xs (Int32.toNatClampNeg 2)) 0) (cwV 3 hts gl_31 rfl rfl rfl (by decide +kernel) ⟨Nat.le_of_ble_eq_true rfl, Nat.le_of_ble_eq_true rfl⟩) (x_preV (q := (RX12, TX12, 85)) hK (x_subP hP [2] rfl) (x_subD hD [2] rfl (by decide)) (ci := 11) (q0 := 0) rfl rfl) rfl rfl hl.1 rfl (lv_room (Nat.le_of_ble_eq_true rfl)) dL_law_641 ⟨Nat.le_of_ble_eq_true rfl, Nat.le_of_ble_eq_true rfl⟩) hP hD hS hA [2] [0, 1] rfl rfl (by decide) (by decide) [0, 1, 2] (fun _ => rfl) (by decide) (fun r_19 u H locs hw hP hD hS => ?_)
      try dsimp only at hw
      obtain rfl : r_19 = (-2000000000) := hw
      have hP : va_P D vwCl [(h0, .inr (10, [.ref (za 0), .ref (za 2), .ref (za 8), .ref (za 13), .ref (za 16), .ref (za 22), .ref (za 25), .ref (za 28), .ref (za 34), .ref (za 40), .ref (za 47)])), ((za 28), .inr (7, [.ref (za 29), .ref (za 30), .ref (za 31), .ref (za 32), .ref (za 33), .int (-1), .int 0, .int 0, .int 0, .int 0, .int 0, .int 0, .long 0])), (h1, .inr (11, mF zb (upd xI0 54 0) xJ0))] H := hP
      have hD : va_D A [(h0, .inr (10, [.ref (za 0), .ref (za 2), .ref (za 8), .ref (za 13), .ref (za 16), .ref (za 22), .ref (za 25), .ref (za 28), .ref (za 34), .ref (za 40), .ref (za 47)])), ((za 28), .inr (7, [.ref (za 29), .ref (za 30), .ref (za 31), .ref (za 32), .ref (za 33), .int (-1), .int 0, .int 0, .int 0, .int 0, .int 0, .int 0, .long 0])), (h1, .inr (11, mF zb (upd xI0 54 0) xJ0))] := hD
      refine W.lcmp hx hb dL_law_644 ?_
      refine lv_if_eq (tgt := 958) hx hb dL_law_645 (by decide) (fun c_20 => ?_) (fun c_20 => ?_)
      · exact law_end l C0 hAl hbA hS (lv_sub hl [0, 1, 2, 3] rfl)
      · exact absurd (by decide) c_20
    · refine lv_iconst (v := 1) hx hb dL_law_636 (by decide) ?_
      refine lv_goto (tgt := 641) hx hb dL_law_637 (by decide) ?_
      refine x_calll (w1 := fun (u : Unit) => [(h1, .inr (11, mF zb (upd xI0 54 0) xJ0))]) (wr := [(h0, .inr (10, [.ref (za 0), .ref (za 2), .ref (za 8), .ref (za 13), .ref (za 16), .ref (za 22), .ref (za 25), .ref (za 28), .ref (za 34), .ref (za 40), .ref (za 47)])), ((za 28), .inr (7, [.ref (za 29), .ref (za 30), .ref (za 31), .ref (za 32), .ref (za 33), .int (-1), .int 0, .int 0, .int 0, .int 0, .int 0, .int 0, .long 0]))]) (ws' := fun (u : Unit) => [(h0, .inr (10, [.ref (za 0), .ref (za 2), .ref (za 8), .ref (za 13), .ref (za 16), .ref (za 22), .ref (za 25), .ref (za 28), .ref (za 34), .ref (za 40), .ref (za 47)])), ((za 28), .inr (7, [.ref (za 29), .ref (za 30), .ref (za 31), .ref (za 32), .ref (za 33), .int (-1), .int 0, .int 0, .int 0, .int 0, .int 0, .int 0, .long 0])), (h1, .inr (11, mF zb (upd xI0 54 0) xJ0))]) (va_runV (As := [.int (xs (Int32.toNatClampNeg 1)), .int (xs (Int32.toNatClampNeg 2)), .int 1]) (rest := [.long (-2000000000)]) ⟨hx, hb, hml, hown, hts⟩ (m_backward0 l D y H.size h1 zb xI0 xJ0 (xs (Int32.toNatClampNeg 1)) (xs (Int32.toNatClampNeg 2)) 1) (cwV 3 hts gl_31 rfl rfl rfl (by decide +kernel) ⟨Nat.le_of_ble_eq_true rfl, Nat.le_of_ble_eq_true rfl⟩) (x_preV (q := (RX12, TX12, 85)) hK (x_subP hP [2] rfl) (x_subD hD [2] rfl (by decide)) (ci := 11) (q0 := 0) rfl rfl) rfl rfl hl.1 rfl (lv_room (Nat.le_of_ble_eq_true rfl)) dL_law_641 ⟨Nat.le_of_ble_eq_true rfl, Nat.le_of_ble_eq_true rfl⟩) hP hD hS hA [2] [0, 1] rfl rfl (by decide) (by decide) [0, 1, 2] (fun _ => rfl) (by decide) (fun r_21 u H locs hw hP hD hS => ?_)
      try dsimp only at hw
      obtain rfl : r_21 = (-2000000000) := hw
      have hP : va_P D vwCl [(h0, .inr (10, [.ref (za 0), .ref (za 2), .ref (za 8), .ref (za 13), .ref (za 16), .ref (za 22), .ref (za 25), .ref (za 28), .ref (za 34), .ref (za 40), .ref (za 47)])), ((za 28), .inr (7, [.ref (za 29), .ref (za 30), .ref (za 31), .ref (za 32), .ref (za 33), .int (-1), .int 0, .int 0, .int 0, .int 0, .int 0, .int 0, .long 0])), (h1, .inr (11, mF zb (upd xI0 54 0) xJ0))] H := hP
      have hD : va_D A [(h0, .inr (10, [.ref (za 0), .ref (za 2), .ref (za 8), .ref (za 13), .ref (za 16), .ref (za 22), .ref (za 25), .ref (za 28), .ref (za 34), .ref (za 40), .ref (za 47)])), ((za 28), .inr (7, [.ref (za 29), .ref (za 30), .ref (za 31), .ref (za 32), .ref (za 33), .int (-1), .int 0, .int 0, .int 0, .int 0, .int 0, .int 0, .long 0])), (h1, .inr (11, mF zb (upd xI0 54 0) xJ0))] := hD
      refine W.lcmp hx hb dL_law_644 ?_
      refine lv_if_eq (tgt := 958) hx hb dL_law_645 (by decide) (fun c_22 => ?_) (fun c_22 => ?_)
      · exact law_end l C0 hAl hbA hS (lv_sub hl [0, 1, 2, 3] rfl)
      · exact absurd (by decide) c_22
set_option maxHeartbeats 4000000 in
set_option maxRecDepth 100000 in
theorem law_case_15 {D : va_G} {y : Nat → ClassId} {za zb r1 r2 : Nat → Nat} {zw : Nat → Nat → Int32} {ow ub : Nat → Int64} {p : Program} {e : Env} {s : State} {m : MethodId} {below : List Frame} {meth : Method} {c : Code} (l : Launch) {b : Nat} {xs : Nat → Int32} {A : Nat → Prop} {H : Heap} {locs : List Loc} {ls : Array Slot} {h0 h1 : Nat} (C0 : lw_At p s m meth c b 6 xs) (hAl : ∀ q, A q → s.heap.size ≤ q) (hbA : ¬ A b) (hS : va_S A s.heap H locs) (hl : lv_has ls 4 [(3, .int 0), (2, .ref h1), (1, .ref h0), (0, .ref b)]) (hA : ∀ q, s.heap.size ≤ q → A q) (hK : va_K D vwCl (xT y) s) (hP : va_P D vwCl (mW y h1 (zb, zw, ub) ++ xW y h0 (za, r1, r2, ow)) H) (hD : va_D A (mW y h1 (zb, zw, ub) ++ xW y h0 (za, r1, r2, ow))) : W p l e room_1 s m #[Value.ref b] below meth c H locs 135 68060 (lw_Z below #[Value.ref b] s) (F0 m 650 ls []) := by
  obtain ⟨hx, hb, hr, hml, hown, hts, hX, hbl, hlocks, hgv⟩ := id C0
  have hown : s.vm.findClass RL = some m.cls := hown
  have hP : va_P D vwCl [(h0, .inr (10, [.ref (za 0), .ref (za 2), .ref (za 8), .ref (za 13), .ref (za 16), .ref (za 22), .ref (za 25), .ref (za 28), .ref (za 34), .ref (za 40), .ref (za 47)])), ((za 28), .inr (7, [.ref (za 29), .ref (za 30), .ref (za 31), .ref (za 32), .ref (za 33), .int (-1), .int 0, .int 0, .int 0, .int 0, .int 0, .int 0, .long 0])), (h1, .inr (11, mF zb xI0 xJ0))] H := x_subP hP [58, 79, 0] rfl
  have hD : va_D A [(h0, .inr (10, [.ref (za 0), .ref (za 2), .ref (za 8), .ref (za 13), .ref (za 16), .ref (za 22), .ref (za 25), .ref (za 28), .ref (za 34), .ref (za 40), .ref (za 47)])), ((za 28), .inr (7, [.ref (za 29), .ref (za 30), .ref (za 31), .ref (za 32), .ref (za 33), .int (-1), .int 0, .int 0, .int 0, .int 0, .int 0, .int 0, .long 0])), (h1, .inr (11, mF zb xI0 xJ0))] := x_subD hD [58, 79, 0] rfl (by decide)
  refine lv_aload_n hx hb dL_law_650 rfl (lv_at hl 2 rfl) ?_
  refine lv_aload_n hx hb dL_law_651 rfl (lv_at hl 3 rfl) ?_
  refine lv_iload_n hx hb dL_law_652 rfl (lv_at hl 0 rfl) ?_
  refine lv_iconst (v := 1) hx hb dL_law_653 (by decide) ?_
  refine lv_iadd hx hb dL_law_654 ?_
  refine lv_topi (fun i_1 ei_1 => ?_)
  obtain rfl : i_1 = 1 := ei_1.trans (by decide)
  refine va_sld hx hb hX hbl hbA hS (x_in (by decide) (by decide)) dL_law_655 ?_
  refine lv_aload_n hx hb dL_law_656 rfl (lv_at hl 3 rfl) ?_
  refine lv_iload_n hx hb dL_law_657 rfl (lv_at hl 0 rfl) ?_
  refine lv_iconst (v := 2) hx hb dL_law_658 (by decide) ?_
  refine lv_iadd hx hb dL_law_659 ?_
  refine lv_topi (fun i_2 ei_2 => ?_)
  obtain rfl : i_2 = 2 := ei_2.trans (by decide)
  refine va_sld hx hb hX hbl hbA hS (x_in (by decide) (by decide)) dL_law_660 ?_
  refine lv_aload_n hx hb dL_law_661 rfl (lv_at hl 3 rfl) ?_
  refine lv_iload_n hx hb dL_law_662 rfl (lv_at hl 0 rfl) ?_
  refine lv_iconst (v := 3) hx hb dL_law_663 (by decide) ?_
  refine lv_iadd hx hb dL_law_664 ?_
  refine lv_topi (fun i_3 ei_3 => ?_)
  obtain rfl : i_3 = 3 := ei_3.trans (by decide)
  refine va_sld hx hb hX hbl hbA hS (x_in (by decide) (by decide)) dL_law_665 ?_
  refine lv_aload_n hx hb dL_law_666 rfl (lv_at hl 3 rfl) ?_
  refine lv_iload_n hx hb dL_law_667 rfl (lv_at hl 0 rfl) ?_
  refine lv_iconst (v := 4) hx hb dL_law_668 (by decide) ?_
  refine lv_iadd hx hb dL_law_669 ?_
  refine lv_topi (fun i_4 ei_4 => ?_)
  obtain rfl : i_4 = 4 := ei_4.trans (by decide)
  refine va_sld hx hb hX hbl hbA hS (x_in (by decide) (by decide)) dL_law_670 ?_
  refine lv_if_eq (tgt := 678) hx hb dL_law_671 (by decide) (fun c_5 => ?_) (fun c_5 => ?_)
  · refine lv_iconst (v := 0) hx hb dL_law_678 (by decide) ?_
    refine x_calll (w1 := fun (u : Unit) => [(h0, .inr (10, [.ref (za 0), .ref (za 2), .ref (za 8), .ref (za 13), .ref (za 16), .ref (za 22), .ref (za 25), .ref (za 28), .ref (za 34), .ref (za 40), .ref (za 47)])), ((za 28), .inr (7, [.ref (za 29), .ref (za 30), .ref (za 31), .ref (za 32), .ref (za 33), .int (-1), .int 0, .int 0, .int 0, .int 0, .int 0, .int 0, .long 0]))]) (wr := [(h1, .inr (11, mF zb xI0 xJ0))]) (ws' := fun (u : Unit) => [(h0, .inr (10, [.ref (za 0), .ref (za 2), .ref (za 8), .ref (za 13), .ref (za 16), .ref (za 22), .ref (za 25), .ref (za 28), .ref (za 34), .ref (za 40), .ref (za 47)])), ((za 28), .inr (7, [.ref (za 29), .ref (za 30), .ref (za 31), .ref (za 32), .ref (za 33), .int (-1), .int 0, .int 0, .int 0, .int 0, .int 0, .int 0, .long 0])), (h1, .inr (11, mF zb xI0 xJ0))]) (va_runV (As := [.int (xs (Int32.toNatClampNeg 1)), .int (xs (Int32.toNatClampNeg 2)), .int (xs (Int32.toNatClampNeg 3)), .int 0]) (rest := []) ⟨hx, hb, hml, hown, hts⟩ (c_twice0 l D y H.size h0 (za 0) (za 2) (za 8) (za 13) (za 16) (za 22) (za 25) (za 28) (za 34) (za 40) (za 47) (za 29) (za 30) (za 31) (za 32) (za 33) (xs (Int32.toNatClampNeg 1)) (xs (Int32.toNatClampNeg 2)) (xs (Int32.toNatClampNeg 3)) 0) (cwV 4 hts gl_32 rfl rfl rfl (by decide +kernel) ⟨Nat.le_of_ble_eq_true rfl, Nat.le_of_ble_eq_true rfl⟩) (x_preV (q := (RX11, TX11, 11)) hK (x_subP hP [0, 1] rfl) (x_subD hD [0, 1] rfl (by decide)) (ci := 10) (q0 := 0) rfl rfl) rfl rfl hl.1 rfl (lv_room (Nat.le_of_ble_eq_true rfl)) dL_law_679 ⟨Nat.le_of_ble_eq_true rfl, Nat.le_of_ble_eq_true rfl⟩) hP hD hS hA [0, 1] [2] rfl rfl (by decide) (by decide) [1, 2, 0] (fun _ => rfl) (by decide) (fun r_6 u H locs hw hP hD hS => ?_)
    try dsimp only at hw
    obtain rfl : r_6 = (-2000000000) := hw
    have hP : va_P D vwCl [(h0, .inr (10, [.ref (za 0), .ref (za 2), .ref (za 8), .ref (za 13), .ref (za 16), .ref (za 22), .ref (za 25), .ref (za 28), .ref (za 34), .ref (za 40), .ref (za 47)])), ((za 28), .inr (7, [.ref (za 29), .ref (za 30), .ref (za 31), .ref (za 32), .ref (za 33), .int (-1), .int 0, .int 0, .int 0, .int 0, .int 0, .int 0, .long 0])), (h1, .inr (11, mF zb xI0 xJ0))] H := hP
    have hD : va_D A [(h0, .inr (10, [.ref (za 0), .ref (za 2), .ref (za 8), .ref (za 13), .ref (za 16), .ref (za 22), .ref (za 25), .ref (za 28), .ref (za 34), .ref (za 40), .ref (za 47)])), ((za 28), .inr (7, [.ref (za 29), .ref (za 30), .ref (za 31), .ref (za 32), .ref (za 33), .int (-1), .int 0, .int 0, .int 0, .int 0, .int 0, .int 0, .long 0])), (h1, .inr (11, mF zb xI0 xJ0))] := hD
    refine lv_aload_n hx hb dL_law_682 rfl (lv_at hl 1 rfl) ?_
    refine lv_aload_n hx hb dL_law_683 rfl (lv_at hl 3 rfl) ?_
    refine lv_iload_n hx hb dL_law_684 rfl (lv_at hl 0 rfl) ?_
    refine lv_iconst (v := 1) hx hb dL_law_685 (by decide) ?_
    refine lv_iadd hx hb dL_law_686 ?_
    refine lv_topi (fun i_7 ei_7 => ?_)
    obtain rfl : i_7 = 1 := ei_7.trans (by decide)
    refine va_sld hx hb hX hbl hbA hS (x_in (by decide) (by decide)) dL_law_687 ?_
    refine lv_aload_n hx hb dL_law_688 rfl (lv_at hl 3 rfl) ?_
    refine lv_iload_n hx hb dL_law_689 rfl (lv_at hl 0 rfl) ?_
    refine lv_iconst (v := 2) hx hb dL_law_690 (by decide) ?_
    refine lv_iadd hx hb dL_law_691 ?_
    refine lv_topi (fun i_8 ei_8 => ?_)
    obtain rfl : i_8 = 2 := ei_8.trans (by decide)
    refine va_sld hx hb hX hbl hbA hS (x_in (by decide) (by decide)) dL_law_692 ?_
    refine lv_aload_n hx hb dL_law_693 rfl (lv_at hl 3 rfl) ?_
    refine lv_iload_n hx hb dL_law_694 rfl (lv_at hl 0 rfl) ?_
    refine lv_iconst (v := 3) hx hb dL_law_695 (by decide) ?_
    refine lv_iadd hx hb dL_law_696 ?_
    refine lv_topi (fun i_9 ei_9 => ?_)
    obtain rfl : i_9 = 3 := ei_9.trans (by decide)
    refine va_sld hx hb hX hbl hbA hS (x_in (by decide) (by decide)) dL_law_697 ?_
    refine lv_aload_n hx hb dL_law_698 rfl (lv_at hl 3 rfl) ?_
    refine lv_iload_n hx hb dL_law_699 rfl (lv_at hl 0 rfl) ?_
    refine lv_iconst (v := 4) hx hb dL_law_700 (by decide) ?_
    refine lv_iadd hx hb dL_law_701 ?_
    refine lv_topi (fun i_10 ei_10 => ?_)
    obtain rfl : i_10 = 4 := ei_10.trans (by decide)
    refine va_sld hx hb hX hbl hbA hS (x_in (by decide) (by decide)) dL_law_702 ?_
    refine lv_if_eq (tgt := 710) hx hb dL_law_703 (by decide) (fun c_11 => ?_) (fun c_11 => ?_)
    · refine lv_iconst (v := 0) hx hb dL_law_710 (by decide) ?_
      refine x_calll (w1 := fun (u : Unit) => [(h1, .inr (11, mF zb (upd xI0 54 0) xJ0))]) (wr := [(h0, .inr (10, [.ref (za 0), .ref (za 2), .ref (za 8), .ref (za 13), .ref (za 16), .ref (za 22), .ref (za 25), .ref (za 28), .ref (za 34), .ref (za 40), .ref (za 47)])), ((za 28), .inr (7, [.ref (za 29), .ref (za 30), .ref (za 31), .ref (za 32), .ref (za 33), .int (-1), .int 0, .int 0, .int 0, .int 0, .int 0, .int 0, .long 0]))]) (ws' := fun (u : Unit) => [(h0, .inr (10, [.ref (za 0), .ref (za 2), .ref (za 8), .ref (za 13), .ref (za 16), .ref (za 22), .ref (za 25), .ref (za 28), .ref (za 34), .ref (za 40), .ref (za 47)])), ((za 28), .inr (7, [.ref (za 29), .ref (za 30), .ref (za 31), .ref (za 32), .ref (za 33), .int (-1), .int 0, .int 0, .int 0, .int 0, .int 0, .int 0, .long 0])), (h1, .inr (11, mF zb (upd xI0 54 0) xJ0))]) (va_runV (As := [.int (xs (Int32.toNatClampNeg 1)), .int (xs (Int32.toNatClampNeg 2)), .int (xs (Int32.toNatClampNeg 3)), .int 0]) (rest := [.long (-2000000000)]) ⟨hx, hb, hml, hown, hts⟩ (m_twice0 l D y H.size h1 zb xI0 xJ0 (xs (Int32.toNatClampNeg 1)) (xs (Int32.toNatClampNeg 2)) (xs (Int32.toNatClampNeg 3)) 0) (cwV 4 hts gl_33 rfl rfl rfl (by decide +kernel) ⟨Nat.le_of_ble_eq_true rfl, Nat.le_of_ble_eq_true rfl⟩) (x_preV (q := (RX12, TX12, 85)) hK (x_subP hP [2] rfl) (x_subD hD [2] rfl (by decide)) (ci := 11) (q0 := 0) rfl rfl) rfl rfl hl.1 rfl (lv_room (Nat.le_of_ble_eq_true rfl)) dL_law_711 ⟨Nat.le_of_ble_eq_true rfl, Nat.le_of_ble_eq_true rfl⟩) hP hD hS hA [2] [0, 1] rfl rfl (by decide) (by decide) [0, 1, 2] (fun _ => rfl) (by decide) (fun r_12 u H locs hw hP hD hS => ?_)
      try dsimp only at hw
      obtain rfl : r_12 = (-2000000000) := hw
      have hP : va_P D vwCl [(h0, .inr (10, [.ref (za 0), .ref (za 2), .ref (za 8), .ref (za 13), .ref (za 16), .ref (za 22), .ref (za 25), .ref (za 28), .ref (za 34), .ref (za 40), .ref (za 47)])), ((za 28), .inr (7, [.ref (za 29), .ref (za 30), .ref (za 31), .ref (za 32), .ref (za 33), .int (-1), .int 0, .int 0, .int 0, .int 0, .int 0, .int 0, .long 0])), (h1, .inr (11, mF zb (upd xI0 54 0) xJ0))] H := hP
      have hD : va_D A [(h0, .inr (10, [.ref (za 0), .ref (za 2), .ref (za 8), .ref (za 13), .ref (za 16), .ref (za 22), .ref (za 25), .ref (za 28), .ref (za 34), .ref (za 40), .ref (za 47)])), ((za 28), .inr (7, [.ref (za 29), .ref (za 30), .ref (za 31), .ref (za 32), .ref (za 33), .int (-1), .int 0, .int 0, .int 0, .int 0, .int 0, .int 0, .long 0])), (h1, .inr (11, mF zb (upd xI0 54 0) xJ0))] := hD
      refine W.lcmp hx hb dL_law_714 ?_
      refine lv_if_eq (tgt := 958) hx hb dL_law_715 (by decide) (fun c_13 => ?_) (fun c_13 => ?_)
      · exact law_end l C0 hAl hbA hS (lv_sub hl [0, 1, 2, 3] rfl)
      · exact absurd (by decide) c_13
    · refine lv_iconst (v := 1) hx hb dL_law_706 (by decide) ?_
      refine lv_goto (tgt := 711) hx hb dL_law_707 (by decide) ?_
      refine x_calll (w1 := fun (u : Unit) => [(h1, .inr (11, mF zb (upd xI0 54 0) xJ0))]) (wr := [(h0, .inr (10, [.ref (za 0), .ref (za 2), .ref (za 8), .ref (za 13), .ref (za 16), .ref (za 22), .ref (za 25), .ref (za 28), .ref (za 34), .ref (za 40), .ref (za 47)])), ((za 28), .inr (7, [.ref (za 29), .ref (za 30), .ref (za 31), .ref (za 32), .ref (za 33), .int (-1), .int 0, .int 0, .int 0, .int 0, .int 0, .int 0, .long 0]))]) (ws' := fun (u : Unit) => [(h0, .inr (10, [.ref (za 0), .ref (za 2), .ref (za 8), .ref (za 13), .ref (za 16), .ref (za 22), .ref (za 25), .ref (za 28), .ref (za 34), .ref (za 40), .ref (za 47)])), ((za 28), .inr (7, [.ref (za 29), .ref (za 30), .ref (za 31), .ref (za 32), .ref (za 33), .int (-1), .int 0, .int 0, .int 0, .int 0, .int 0, .int 0, .long 0])), (h1, .inr (11, mF zb (upd xI0 54 0) xJ0))]) (va_runV (As := [.int (xs (Int32.toNatClampNeg 1)), .int (xs (Int32.toNatClampNeg 2)), .int (xs (Int32.toNatClampNeg 3)), .int 1]) (rest := [.long (-2000000000)]) ⟨hx, hb, hml, hown, hts⟩ (m_twice0 l D y H.size h1 zb xI0 xJ0 (xs (Int32.toNatClampNeg 1)) (xs (Int32.toNatClampNeg 2)) (xs (Int32.toNatClampNeg 3)) 1) (cwV 4 hts gl_33 rfl rfl rfl (by decide +kernel) ⟨Nat.le_of_ble_eq_true rfl, Nat.le_of_ble_eq_true rfl⟩) (x_preV (q := (RX12, TX12, 85)) hK (x_subP hP [2] rfl) (x_subD hD [2] rfl (by decide)) (ci := 11) (q0 := 0) rfl rfl) rfl rfl hl.1 rfl (lv_room (Nat.le_of_ble_eq_true rfl)) dL_law_711 ⟨Nat.le_of_ble_eq_true rfl, Nat.le_of_ble_eq_true rfl⟩) hP hD hS hA [2] [0, 1] rfl rfl (by decide) (by decide) [0, 1, 2] (fun _ => rfl) (by decide) (fun r_14 u H locs hw hP hD hS => ?_)
      try dsimp only at hw
      obtain rfl : r_14 = (-2000000000) := hw
      have hP : va_P D vwCl [(h0, .inr (10, [.ref (za 0), .ref (za 2), .ref (za 8), .ref (za 13), .ref (za 16), .ref (za 22), .ref (za 25), .ref (za 28), .ref (za 34), .ref (za 40), .ref (za 47)])), ((za 28), .inr (7, [.ref (za 29), .ref (za 30), .ref (za 31), .ref (za 32), .ref (za 33), .int (-1), .int 0, .int 0, .int 0, .int 0, .int 0, .int 0, .long 0])), (h1, .inr (11, mF zb (upd xI0 54 0) xJ0))] H := hP
      have hD : va_D A [(h0, .inr (10, [.ref (za 0), .ref (za 2), .ref (za 8), .ref (za 13), .ref (za 16), .ref (za 22), .ref (za 25), .ref (za 28), .ref (za 34), .ref (za 40), .ref (za 47)])), ((za 28), .inr (7, [.ref (za 29), .ref (za 30), .ref (za 31), .ref (za 32), .ref (za 33), .int (-1), .int 0, .int 0, .int 0, .int 0, .int 0, .int 0, .long 0])), (h1, .inr (11, mF zb (upd xI0 54 0) xJ0))] := hD
      refine W.lcmp hx hb dL_law_714 ?_
      refine lv_if_eq (tgt := 958) hx hb dL_law_715 (by decide) (fun c_15 => ?_) (fun c_15 => ?_)
      · exact law_end l C0 hAl hbA hS (lv_sub hl [0, 1, 2, 3] rfl)
      · exact absurd (by decide) c_15
  · refine lv_iconst (v := 1) hx hb dL_law_674 (by decide) ?_
    refine lv_goto (tgt := 679) hx hb dL_law_675 (by decide) ?_
    refine x_calll (w1 := fun (u : Unit) => [(h0, .inr (10, [.ref (za 0), .ref (za 2), .ref (za 8), .ref (za 13), .ref (za 16), .ref (za 22), .ref (za 25), .ref (za 28), .ref (za 34), .ref (za 40), .ref (za 47)])), ((za 28), .inr (7, [.ref (za 29), .ref (za 30), .ref (za 31), .ref (za 32), .ref (za 33), .int (-1), .int 0, .int 0, .int 0, .int 0, .int 0, .int 0, .long 0]))]) (wr := [(h1, .inr (11, mF zb xI0 xJ0))]) (ws' := fun (u : Unit) => [(h0, .inr (10, [.ref (za 0), .ref (za 2), .ref (za 8), .ref (za 13), .ref (za 16), .ref (za 22), .ref (za 25), .ref (za 28), .ref (za 34), .ref (za 40), .ref (za 47)])), ((za 28), .inr (7, [.ref (za 29), .ref (za 30), .ref (za 31), .ref (za 32), .ref (za 33), .int (-1), .int 0, .int 0, .int 0, .int 0, .int 0, .int 0, .long 0])), (h1, .inr (11, mF zb xI0 xJ0))]) (va_runV (As := [.int (xs (Int32.toNatClampNeg 1)), .int (xs (Int32.toNatClampNeg 2)), .int (xs (Int32.toNatClampNeg 3)), .int 1]) (rest := []) ⟨hx, hb, hml, hown, hts⟩ (c_twice0 l D y H.size h0 (za 0) (za 2) (za 8) (za 13) (za 16) (za 22) (za 25) (za 28) (za 34) (za 40) (za 47) (za 29) (za 30) (za 31) (za 32) (za 33) (xs (Int32.toNatClampNeg 1)) (xs (Int32.toNatClampNeg 2)) (xs (Int32.toNatClampNeg 3)) 1) (cwV 4 hts gl_32 rfl rfl rfl (by decide +kernel) ⟨Nat.le_of_ble_eq_true rfl, Nat.le_of_ble_eq_true rfl⟩) (x_preV (q := (RX11, TX11, 11)) hK (x_subP hP [0, 1] rfl) (x_subD hD [0, 1] rfl (by decide)) (ci := 10) (q0 := 0) rfl rfl) rfl rfl hl.1 rfl (lv_room (Nat.le_of_ble_eq_true rfl)) dL_law_679 ⟨Nat.le_of_ble_eq_true rfl, Nat.le_of_ble_eq_true rfl⟩) hP hD hS hA [0, 1] [2] rfl rfl (by decide) (by decide) [1, 2, 0] (fun _ => rfl) (by decide) (fun r_16 u H locs hw hP hD hS => ?_)
    try dsimp only at hw
    obtain rfl : r_16 = (-2000000000) := hw
    have hP : va_P D vwCl [(h0, .inr (10, [.ref (za 0), .ref (za 2), .ref (za 8), .ref (za 13), .ref (za 16), .ref (za 22), .ref (za 25), .ref (za 28), .ref (za 34), .ref (za 40), .ref (za 47)])), ((za 28), .inr (7, [.ref (za 29), .ref (za 30), .ref (za 31), .ref (za 32), .ref (za 33), .int (-1), .int 0, .int 0, .int 0, .int 0, .int 0, .int 0, .long 0])), (h1, .inr (11, mF zb xI0 xJ0))] H := hP
    have hD : va_D A [(h0, .inr (10, [.ref (za 0), .ref (za 2), .ref (za 8), .ref (za 13), .ref (za 16), .ref (za 22), .ref (za 25), .ref (za 28), .ref (za 34), .ref (za 40), .ref (za 47)])), ((za 28), .inr (7, [.ref (za 29), .ref (za 30), .ref (za 31), .ref (za 32), .ref (za 33), .int (-1), .int 0, .int 0, .int 0, .int 0, .int 0, .int 0, .long 0])), (h1, .inr (11, mF zb xI0 xJ0))] := hD
    refine lv_aload_n hx hb dL_law_682 rfl (lv_at hl 1 rfl) ?_
    refine lv_aload_n hx hb dL_law_683 rfl (lv_at hl 3 rfl) ?_
    refine lv_iload_n hx hb dL_law_684 rfl (lv_at hl 0 rfl) ?_
    refine lv_iconst (v := 1) hx hb dL_law_685 (by decide) ?_
    refine lv_iadd hx hb dL_law_686 ?_
    refine lv_topi (fun i_17 ei_17 => ?_)
    obtain rfl : i_17 = 1 := ei_17.trans (by decide)
    refine va_sld hx hb hX hbl hbA hS (x_in (by decide) (by decide)) dL_law_687 ?_
    refine lv_aload_n hx hb dL_law_688 rfl (lv_at hl 3 rfl) ?_
    refine lv_iload_n hx hb dL_law_689 rfl (lv_at hl 0 rfl) ?_
    refine lv_iconst (v := 2) hx hb dL_law_690 (by decide) ?_
    refine lv_iadd hx hb dL_law_691 ?_
    refine lv_topi (fun i_18 ei_18 => ?_)
    obtain rfl : i_18 = 2 := ei_18.trans (by decide)
    refine va_sld hx hb hX hbl hbA hS (x_in (by decide) (by decide)) dL_law_692 ?_
    refine lv_aload_n hx hb dL_law_693 rfl (lv_at hl 3 rfl) ?_
    refine lv_iload_n hx hb dL_law_694 rfl (lv_at hl 0 rfl) ?_
    refine lv_iconst (v := 3) hx hb dL_law_695 (by decide) ?_
    refine lv_iadd hx hb dL_law_696 ?_
    refine lv_topi (fun i_19 ei_19 => ?_)
    obtain rfl : i_19 = 3 := ei_19.trans (by decide)
    refine va_sld hx hb hX hbl hbA hS (x_in (by decide) (by decide)) dL_law_697 ?_
    refine lv_aload_n hx hb dL_law_698 rfl (lv_at hl 3 rfl) ?_
    refine lv_iload_n hx hb dL_law_699 rfl (lv_at hl 0 rfl) ?_
    refine lv_iconst (v := 4) hx hb dL_law_700 (by decide) ?_
    refine lv_iadd hx hb dL_law_701 ?_
    refine lv_topi (fun i_20 ei_20 => ?_)
    obtain rfl : i_20 = 4 := ei_20.trans (by decide)
    refine va_sld hx hb hX hbl hbA hS (x_in (by decide) (by decide)) dL_law_702 ?_
    refine lv_if_eq (tgt := 710) hx hb dL_law_703 (by decide) (fun c_21 => ?_) (fun c_21 => ?_)
    · refine lv_iconst (v := 0) hx hb dL_law_710 (by decide) ?_
      refine x_calll (w1 := fun (u : Unit) => [(h1, .inr (11, mF zb (upd xI0 54 0) xJ0))]) (wr := [(h0, .inr (10, [.ref (za 0), .ref (za 2), .ref (za 8), .ref (za 13), .ref (za 16), .ref (za 22), .ref (za 25), .ref (za 28), .ref (za 34), .ref (za 40), .ref (za 47)])), ((za 28), .inr (7, [.ref (za 29), .ref (za 30), .ref (za 31), .ref (za 32), .ref (za 33), .int (-1), .int 0, .int 0, .int 0, .int 0, .int 0, .int 0, .long 0]))]) (ws' := fun (u : Unit) => [(h0, .inr (10, [.ref (za 0), .ref (za 2), .ref (za 8), .ref (za 13), .ref (za 16), .ref (za 22), .ref (za 25), .ref (za 28), .ref (za 34), .ref (za 40), .ref (za 47)])), ((za 28), .inr (7, [.ref (za 29), .ref (za 30), .ref (za 31), .ref (za 32), .ref (za 33), .int (-1), .int 0, .int 0, .int 0, .int 0, .int 0, .int 0, .long 0])), (h1, .inr (11, mF zb (upd xI0 54 0) xJ0))]) (va_runV (As := [.int (xs (Int32.toNatClampNeg 1)), .int (xs (Int32.toNatClampNeg 2)), .int (xs (Int32.toNatClampNeg 3)), .int 0]) (rest := [.long (-2000000000)]) ⟨hx, hb, hml, hown, hts⟩ (m_twice0 l D y H.size h1 zb xI0 xJ0 (xs (Int32.toNatClampNeg 1)) (xs (Int32.toNatClampNeg 2)) (xs (Int32.toNatClampNeg 3)) 0) (cwV 4 hts gl_33 rfl rfl rfl (by decide +kernel) ⟨Nat.le_of_ble_eq_true rfl, Nat.le_of_ble_eq_true rfl⟩) (x_preV (q := (RX12, TX12, 85)) hK (x_subP hP [2] rfl) (x_subD hD [2] rfl (by decide)) (ci := 11) (q0 := 0) rfl rfl) rfl rfl hl.1 rfl (lv_room (Nat.le_of_ble_eq_true rfl)) dL_law_711 ⟨Nat.le_of_ble_eq_true rfl, Nat.le_of_ble_eq_true rfl⟩) hP hD hS hA [2] [0, 1] rfl rfl (by decide) (by decide) [0, 1, 2] (fun _ => rfl) (by decide) (fun r_22 u H locs hw hP hD hS => ?_)
      try dsimp only at hw
      obtain rfl : r_22 = (-2000000000) := hw
      have hP : va_P D vwCl [(h0, .inr (10, [.ref (za 0), .ref (za 2), .ref (za 8), .ref (za 13), .ref (za 16), .ref (za 22), .ref (za 25), .ref (za 28), .ref (za 34), .ref (za 40), .ref (za 47)])), ((za 28), .inr (7, [.ref (za 29), .ref (za 30), .ref (za 31), .ref (za 32), .ref (za 33), .int (-1), .int 0, .int 0, .int 0, .int 0, .int 0, .int 0, .long 0])), (h1, .inr (11, mF zb (upd xI0 54 0) xJ0))] H := hP
      have hD : va_D A [(h0, .inr (10, [.ref (za 0), .ref (za 2), .ref (za 8), .ref (za 13), .ref (za 16), .ref (za 22), .ref (za 25), .ref (za 28), .ref (za 34), .ref (za 40), .ref (za 47)])), ((za 28), .inr (7, [.ref (za 29), .ref (za 30), .ref (za 31), .ref (za 32), .ref (za 33), .int (-1), .int 0, .int 0, .int 0, .int 0, .int 0, .int 0, .long 0])), (h1, .inr (11, mF zb (upd xI0 54 0) xJ0))] := hD
      refine W.lcmp hx hb dL_law_714 ?_
      refine lv_if_eq (tgt := 958) hx hb dL_law_715 (by decide) (fun c_23 => ?_) (fun c_23 => ?_)
      · exact law_end l C0 hAl hbA hS (lv_sub hl [0, 1, 2, 3] rfl)
      · exact absurd (by decide) c_23
    · refine lv_iconst (v := 1) hx hb dL_law_706 (by decide) ?_
      refine lv_goto (tgt := 711) hx hb dL_law_707 (by decide) ?_
      refine x_calll (w1 := fun (u : Unit) => [(h1, .inr (11, mF zb (upd xI0 54 0) xJ0))]) (wr := [(h0, .inr (10, [.ref (za 0), .ref (za 2), .ref (za 8), .ref (za 13), .ref (za 16), .ref (za 22), .ref (za 25), .ref (za 28), .ref (za 34), .ref (za 40), .ref (za 47)])), ((za 28), .inr (7, [.ref (za 29), .ref (za 30), .ref (za 31), .ref (za 32), .ref (za 33), .int (-1), .int 0, .int 0, .int 0, .int 0, .int 0, .int 0, .long 0]))]) (ws' := fun (u : Unit) => [(h0, .inr (10, [.ref (za 0), .ref (za 2), .ref (za 8), .ref (za 13), .ref (za 16), .ref (za 22), .ref (za 25), .ref (za 28), .ref (za 34), .ref (za 40), .ref (za 47)])), ((za 28), .inr (7, [.ref (za 29), .ref (za 30), .ref (za 31), .ref (za 32), .ref (za 33), .int (-1), .int 0, .int 0, .int 0, .int 0, .int 0, .int 0, .long 0])), (h1, .inr (11, mF zb (upd xI0 54 0) xJ0))]) (va_runV (As := [.int (xs (Int32.toNatClampNeg 1)), .int (xs (Int32.toNatClampNeg 2)), .int (xs (Int32.toNatClampNeg 3)), .int 1]) (rest := [.long (-2000000000)]) ⟨hx, hb, hml, hown, hts⟩ (m_twice0 l D y H.size h1 zb xI0 xJ0 (xs (Int32.toNatClampNeg 1)) (xs (Int32.toNatClampNeg 2)) (xs (Int32.toNatClampNeg 3)) 1) (cwV 4 hts gl_33 rfl rfl rfl (by decide +kernel) ⟨Nat.le_of_ble_eq_true rfl, Nat.le_of_ble_eq_true rfl⟩) (x_preV (q := (RX12, TX12, 85)) hK (x_subP hP [2] rfl) (x_subD hD [2] rfl (by decide)) (ci := 11) (q0 := 0) rfl rfl) rfl rfl hl.1 rfl (lv_room (Nat.le_of_ble_eq_true rfl)) dL_law_711 ⟨Nat.le_of_ble_eq_true rfl, Nat.le_of_ble_eq_true rfl⟩) hP hD hS hA [2] [0, 1] rfl rfl (by decide) (by decide) [0, 1, 2] (fun _ => rfl) (by decide) (fun r_24 u H locs hw hP hD hS => ?_)
      try dsimp only at hw
      obtain rfl : r_24 = (-2000000000) := hw
      have hP : va_P D vwCl [(h0, .inr (10, [.ref (za 0), .ref (za 2), .ref (za 8), .ref (za 13), .ref (za 16), .ref (za 22), .ref (za 25), .ref (za 28), .ref (za 34), .ref (za 40), .ref (za 47)])), ((za 28), .inr (7, [.ref (za 29), .ref (za 30), .ref (za 31), .ref (za 32), .ref (za 33), .int (-1), .int 0, .int 0, .int 0, .int 0, .int 0, .int 0, .long 0])), (h1, .inr (11, mF zb (upd xI0 54 0) xJ0))] H := hP
      have hD : va_D A [(h0, .inr (10, [.ref (za 0), .ref (za 2), .ref (za 8), .ref (za 13), .ref (za 16), .ref (za 22), .ref (za 25), .ref (za 28), .ref (za 34), .ref (za 40), .ref (za 47)])), ((za 28), .inr (7, [.ref (za 29), .ref (za 30), .ref (za 31), .ref (za 32), .ref (za 33), .int (-1), .int 0, .int 0, .int 0, .int 0, .int 0, .int 0, .long 0])), (h1, .inr (11, mF zb (upd xI0 54 0) xJ0))] := hD
      refine W.lcmp hx hb dL_law_714 ?_
      refine lv_if_eq (tgt := 958) hx hb dL_law_715 (by decide) (fun c_25 => ?_) (fun c_25 => ?_)
      · exact law_end l C0 hAl hbA hS (lv_sub hl [0, 1, 2, 3] rfl)
      · exact absurd (by decide) c_25
set_option maxHeartbeats 4000000 in
set_option maxRecDepth 100000 in
theorem law_case_16 {D : va_G} {y : Nat → ClassId} {za zb r1 r2 : Nat → Nat} {zw : Nat → Nat → Int32} {ow ub : Nat → Int64} {p : Program} {e : Env} {s : State} {m : MethodId} {below : List Frame} {meth : Method} {c : Code} (l : Launch) {b : Nat} {xs : Nat → Int32} {A : Nat → Prop} {H : Heap} {locs : List Loc} {ls : Array Slot} {h0 h1 : Nat} (C0 : lw_At p s m meth c b 6 xs) (hAl : ∀ q, A q → s.heap.size ≤ q) (hbA : ¬ A b) (hS : va_S A s.heap H locs) (hl : lv_has ls 4 [(3, .int 0), (2, .ref h1), (1, .ref h0), (0, .ref b)]) (hA : ∀ q, s.heap.size ≤ q → A q) (hK : va_K D vwCl (xT y) s) (hP : va_P D vwCl (mW y h1 (zb, zw, ub) ++ xW y h0 (za, r1, r2, ow)) H) (hD : va_D A (mW y h1 (zb, zw, ub) ++ xW y h0 (za, r1, r2, ow))) : W p l e room_1 s m #[Value.ref b] below meth c H locs 135 68060 (lw_Z below #[Value.ref b] s) (F0 m 720 ls []) := by
  obtain ⟨hx, hb, hr, hml, hown, hts, hX, hbl, hlocks, hgv⟩ := id C0
  have hown : s.vm.findClass RL = some m.cls := hown
  have hP : va_P D vwCl [(h0, .inr (10, [.ref (za 0), .ref (za 2), .ref (za 8), .ref (za 13), .ref (za 16), .ref (za 22), .ref (za 25), .ref (za 28), .ref (za 34), .ref (za 40), .ref (za 47)])), ((za 28), .inr (7, [.ref (za 29), .ref (za 30), .ref (za 31), .ref (za 32), .ref (za 33), .int (-1), .int 0, .int 0, .int 0, .int 0, .int 0, .int 0, .long 0])), (h1, .inr (11, mF zb xI0 xJ0))] H := x_subP hP [58, 79, 0] rfl
  have hD : va_D A [(h0, .inr (10, [.ref (za 0), .ref (za 2), .ref (za 8), .ref (za 13), .ref (za 16), .ref (za 22), .ref (za 25), .ref (za 28), .ref (za 34), .ref (za 40), .ref (za 47)])), ((za 28), .inr (7, [.ref (za 29), .ref (za 30), .ref (za 31), .ref (za 32), .ref (za 33), .int (-1), .int 0, .int 0, .int 0, .int 0, .int 0, .int 0, .long 0])), (h1, .inr (11, mF zb xI0 xJ0))] := x_subD hD [58, 79, 0] rfl (by decide)
  refine lv_aload_n hx hb dL_law_720 rfl (lv_at hl 2 rfl) ?_
  refine lv_aload_n hx hb dL_law_721 rfl (lv_at hl 3 rfl) ?_
  refine lv_iload_n hx hb dL_law_722 rfl (lv_at hl 0 rfl) ?_
  refine lv_iconst (v := 1) hx hb dL_law_723 (by decide) ?_
  refine lv_iadd hx hb dL_law_724 ?_
  refine lv_topi (fun i_1 ei_1 => ?_)
  obtain rfl : i_1 = 1 := ei_1.trans (by decide)
  refine va_sld hx hb hX hbl hbA hS (x_in (by decide) (by decide)) dL_law_725 ?_
  refine lv_aload_n hx hb dL_law_726 rfl (lv_at hl 3 rfl) ?_
  refine lv_iload_n hx hb dL_law_727 rfl (lv_at hl 0 rfl) ?_
  refine lv_iconst (v := 2) hx hb dL_law_728 (by decide) ?_
  refine lv_iadd hx hb dL_law_729 ?_
  refine lv_topi (fun i_2 ei_2 => ?_)
  obtain rfl : i_2 = 2 := ei_2.trans (by decide)
  refine va_sld hx hb hX hbl hbA hS (x_in (by decide) (by decide)) dL_law_730 ?_
  refine lv_aload_n hx hb dL_law_731 rfl (lv_at hl 3 rfl) ?_
  refine lv_iload_n hx hb dL_law_732 rfl (lv_at hl 0 rfl) ?_
  refine lv_iconst (v := 3) hx hb dL_law_733 (by decide) ?_
  refine lv_iadd hx hb dL_law_734 ?_
  refine lv_topi (fun i_3 ei_3 => ?_)
  obtain rfl : i_3 = 3 := ei_3.trans (by decide)
  refine va_sld hx hb hX hbl hbA hS (x_in (by decide) (by decide)) dL_law_735 ?_
  refine lv_aload_n hx hb dL_law_736 rfl (lv_at hl 3 rfl) ?_
  refine lv_iload_n hx hb dL_law_737 rfl (lv_at hl 0 rfl) ?_
  refine lv_iconst (v := 4) hx hb dL_law_738 (by decide) ?_
  refine lv_iadd hx hb dL_law_739 ?_
  refine lv_topi (fun i_4 ei_4 => ?_)
  obtain rfl : i_4 = 4 := ei_4.trans (by decide)
  refine va_sld hx hb hX hbl hbA hS (x_in (by decide) (by decide)) dL_law_740 ?_
  refine lv_aload_n hx hb dL_law_741 rfl (lv_at hl 3 rfl) ?_
  refine lv_iload_n hx hb dL_law_742 rfl (lv_at hl 0 rfl) ?_
  refine lv_iconst (v := 5) hx hb dL_law_743 (by decide) ?_
  refine lv_iadd hx hb dL_law_744 ?_
  refine lv_topi (fun i_5 ei_5 => ?_)
  obtain rfl : i_5 = 5 := ei_5.trans (by decide)
  refine va_sld hx hb hX hbl hbA hS (x_in (by decide) (by decide)) dL_law_745 ?_
  refine lv_if_eq (tgt := 753) hx hb dL_law_746 (by decide) (fun c_6 => ?_) (fun c_6 => ?_)
  · refine lv_iconst (v := 0) hx hb dL_law_753 (by decide) ?_
    refine x_calll (w1 := fun (u : Unit) => [(h0, .inr (10, [.ref (za 0), .ref (za 2), .ref (za 8), .ref (za 13), .ref (za 16), .ref (za 22), .ref (za 25), .ref (za 28), .ref (za 34), .ref (za 40), .ref (za 47)])), ((za 28), .inr (7, [.ref (za 29), .ref (za 30), .ref (za 31), .ref (za 32), .ref (za 33), .int (-1), .int 0, .int 0, .int 0, .int 0, .int 0, .int 0, .long 0]))]) (wr := [(h1, .inr (11, mF zb xI0 xJ0))]) (ws' := fun (u : Unit) => [(h0, .inr (10, [.ref (za 0), .ref (za 2), .ref (za 8), .ref (za 13), .ref (za 16), .ref (za 22), .ref (za 25), .ref (za 28), .ref (za 34), .ref (za 40), .ref (za 47)])), ((za 28), .inr (7, [.ref (za 29), .ref (za 30), .ref (za 31), .ref (za 32), .ref (za 33), .int (-1), .int 0, .int 0, .int 0, .int 0, .int 0, .int 0, .long 0])), (h1, .inr (11, mF zb xI0 xJ0))]) (va_runV (As := [.int (xs (Int32.toNatClampNeg 1)), .int (xs (Int32.toNatClampNeg 2)), .int (xs (Int32.toNatClampNeg 3)), .int (xs (Int32.toNatClampNeg 4)), .int 0]) (rest := []) ⟨hx, hb, hml, hown, hts⟩ (c_difference0 l D y H.size h0 (za 0) (za 2) (za 8) (za 13) (za 16) (za 22) (za 25) (za 28) (za 34) (za 40) (za 47) (za 29) (za 30) (za 31) (za 32) (za 33) (xs (Int32.toNatClampNeg 1)) (xs (Int32.toNatClampNeg 2)) (xs (Int32.toNatClampNeg 3)) (xs (Int32.toNatClampNeg 4)) 0) (cwV 5 hts gl_34 rfl rfl rfl (by decide +kernel) ⟨Nat.le_of_ble_eq_true rfl, Nat.le_of_ble_eq_true rfl⟩) (x_preV (q := (RX11, TX11, 11)) hK (x_subP hP [0, 1] rfl) (x_subD hD [0, 1] rfl (by decide)) (ci := 10) (q0 := 0) rfl rfl) rfl rfl hl.1 rfl (lv_room (Nat.le_of_ble_eq_true rfl)) dL_law_754 ⟨Nat.le_of_ble_eq_true rfl, Nat.le_of_ble_eq_true rfl⟩) hP hD hS hA [0, 1] [2] rfl rfl (by decide) (by decide) [1, 2, 0] (fun _ => rfl) (by decide) (fun r_7 u H locs hw hP hD hS => ?_)
    try dsimp only at hw
    obtain rfl : r_7 = (-2000000000) := hw
    have hP : va_P D vwCl [(h0, .inr (10, [.ref (za 0), .ref (za 2), .ref (za 8), .ref (za 13), .ref (za 16), .ref (za 22), .ref (za 25), .ref (za 28), .ref (za 34), .ref (za 40), .ref (za 47)])), ((za 28), .inr (7, [.ref (za 29), .ref (za 30), .ref (za 31), .ref (za 32), .ref (za 33), .int (-1), .int 0, .int 0, .int 0, .int 0, .int 0, .int 0, .long 0])), (h1, .inr (11, mF zb xI0 xJ0))] H := hP
    have hD : va_D A [(h0, .inr (10, [.ref (za 0), .ref (za 2), .ref (za 8), .ref (za 13), .ref (za 16), .ref (za 22), .ref (za 25), .ref (za 28), .ref (za 34), .ref (za 40), .ref (za 47)])), ((za 28), .inr (7, [.ref (za 29), .ref (za 30), .ref (za 31), .ref (za 32), .ref (za 33), .int (-1), .int 0, .int 0, .int 0, .int 0, .int 0, .int 0, .long 0])), (h1, .inr (11, mF zb xI0 xJ0))] := hD
    refine lv_aload_n hx hb dL_law_757 rfl (lv_at hl 1 rfl) ?_
    refine lv_aload_n hx hb dL_law_758 rfl (lv_at hl 3 rfl) ?_
    refine lv_iload_n hx hb dL_law_759 rfl (lv_at hl 0 rfl) ?_
    refine lv_iconst (v := 1) hx hb dL_law_760 (by decide) ?_
    refine lv_iadd hx hb dL_law_761 ?_
    refine lv_topi (fun i_8 ei_8 => ?_)
    obtain rfl : i_8 = 1 := ei_8.trans (by decide)
    refine va_sld hx hb hX hbl hbA hS (x_in (by decide) (by decide)) dL_law_762 ?_
    refine lv_aload_n hx hb dL_law_763 rfl (lv_at hl 3 rfl) ?_
    refine lv_iload_n hx hb dL_law_764 rfl (lv_at hl 0 rfl) ?_
    refine lv_iconst (v := 2) hx hb dL_law_765 (by decide) ?_
    refine lv_iadd hx hb dL_law_766 ?_
    refine lv_topi (fun i_9 ei_9 => ?_)
    obtain rfl : i_9 = 2 := ei_9.trans (by decide)
    refine va_sld hx hb hX hbl hbA hS (x_in (by decide) (by decide)) dL_law_767 ?_
    refine lv_aload_n hx hb dL_law_768 rfl (lv_at hl 3 rfl) ?_
    refine lv_iload_n hx hb dL_law_769 rfl (lv_at hl 0 rfl) ?_
    refine lv_iconst (v := 3) hx hb dL_law_770 (by decide) ?_
    refine lv_iadd hx hb dL_law_771 ?_
    refine lv_topi (fun i_10 ei_10 => ?_)
    obtain rfl : i_10 = 3 := ei_10.trans (by decide)
    refine va_sld hx hb hX hbl hbA hS (x_in (by decide) (by decide)) dL_law_772 ?_
    refine lv_aload_n hx hb dL_law_773 rfl (lv_at hl 3 rfl) ?_
    refine lv_iload_n hx hb dL_law_774 rfl (lv_at hl 0 rfl) ?_
    refine lv_iconst (v := 4) hx hb dL_law_775 (by decide) ?_
    refine lv_iadd hx hb dL_law_776 ?_
    refine lv_topi (fun i_11 ei_11 => ?_)
    obtain rfl : i_11 = 4 := ei_11.trans (by decide)
    refine va_sld hx hb hX hbl hbA hS (x_in (by decide) (by decide)) dL_law_777 ?_
    refine lv_aload_n hx hb dL_law_778 rfl (lv_at hl 3 rfl) ?_
    refine lv_iload_n hx hb dL_law_779 rfl (lv_at hl 0 rfl) ?_
    refine lv_iconst (v := 5) hx hb dL_law_780 (by decide) ?_
    refine lv_iadd hx hb dL_law_781 ?_
    refine lv_topi (fun i_12 ei_12 => ?_)
    obtain rfl : i_12 = 5 := ei_12.trans (by decide)
    refine va_sld hx hb hX hbl hbA hS (x_in (by decide) (by decide)) dL_law_782 ?_
    refine lv_if_eq (tgt := 790) hx hb dL_law_783 (by decide) (fun c_13 => ?_) (fun c_13 => ?_)
    · refine lv_iconst (v := 0) hx hb dL_law_790 (by decide) ?_
      refine x_calll (w1 := fun (u : Unit) => [(h1, .inr (11, mF zb (upd xI0 54 0) xJ0))]) (wr := [(h0, .inr (10, [.ref (za 0), .ref (za 2), .ref (za 8), .ref (za 13), .ref (za 16), .ref (za 22), .ref (za 25), .ref (za 28), .ref (za 34), .ref (za 40), .ref (za 47)])), ((za 28), .inr (7, [.ref (za 29), .ref (za 30), .ref (za 31), .ref (za 32), .ref (za 33), .int (-1), .int 0, .int 0, .int 0, .int 0, .int 0, .int 0, .long 0]))]) (ws' := fun (u : Unit) => [(h0, .inr (10, [.ref (za 0), .ref (za 2), .ref (za 8), .ref (za 13), .ref (za 16), .ref (za 22), .ref (za 25), .ref (za 28), .ref (za 34), .ref (za 40), .ref (za 47)])), ((za 28), .inr (7, [.ref (za 29), .ref (za 30), .ref (za 31), .ref (za 32), .ref (za 33), .int (-1), .int 0, .int 0, .int 0, .int 0, .int 0, .int 0, .long 0])), (h1, .inr (11, mF zb (upd xI0 54 0) xJ0))]) (va_runV (As := [.int (xs (Int32.toNatClampNeg 1)), .int (xs (Int32.toNatClampNeg 2)), .int (xs (Int32.toNatClampNeg 3)), .int (xs (Int32.toNatClampNeg 4)), .int 0]) (rest := [.long (-2000000000)]) ⟨hx, hb, hml, hown, hts⟩ (m_difference0 l D y H.size h1 zb xI0 xJ0 (xs (Int32.toNatClampNeg 1)) (xs (Int32.toNatClampNeg 2)) (xs (Int32.toNatClampNeg 3)) (xs (Int32.toNatClampNeg 4)) 0) (cwV 5 hts gl_35 rfl rfl rfl (by decide +kernel) ⟨Nat.le_of_ble_eq_true rfl, Nat.le_of_ble_eq_true rfl⟩) (x_preV (q := (RX12, TX12, 85)) hK (x_subP hP [2] rfl) (x_subD hD [2] rfl (by decide)) (ci := 11) (q0 := 0) rfl rfl) rfl rfl hl.1 rfl (lv_room (Nat.le_of_ble_eq_true rfl)) dL_law_791 ⟨Nat.le_of_ble_eq_true rfl, Nat.le_of_ble_eq_true rfl⟩) hP hD hS hA [2] [0, 1] rfl rfl (by decide) (by decide) [0, 1, 2] (fun _ => rfl) (by decide) (fun r_14 u H locs hw hP hD hS => ?_)
      try dsimp only at hw
      obtain rfl : r_14 = (-2000000000) := hw
      have hP : va_P D vwCl [(h0, .inr (10, [.ref (za 0), .ref (za 2), .ref (za 8), .ref (za 13), .ref (za 16), .ref (za 22), .ref (za 25), .ref (za 28), .ref (za 34), .ref (za 40), .ref (za 47)])), ((za 28), .inr (7, [.ref (za 29), .ref (za 30), .ref (za 31), .ref (za 32), .ref (za 33), .int (-1), .int 0, .int 0, .int 0, .int 0, .int 0, .int 0, .long 0])), (h1, .inr (11, mF zb (upd xI0 54 0) xJ0))] H := hP
      have hD : va_D A [(h0, .inr (10, [.ref (za 0), .ref (za 2), .ref (za 8), .ref (za 13), .ref (za 16), .ref (za 22), .ref (za 25), .ref (za 28), .ref (za 34), .ref (za 40), .ref (za 47)])), ((za 28), .inr (7, [.ref (za 29), .ref (za 30), .ref (za 31), .ref (za 32), .ref (za 33), .int (-1), .int 0, .int 0, .int 0, .int 0, .int 0, .int 0, .long 0])), (h1, .inr (11, mF zb (upd xI0 54 0) xJ0))] := hD
      refine W.lcmp hx hb dL_law_794 ?_
      refine lv_if_eq (tgt := 958) hx hb dL_law_795 (by decide) (fun c_15 => ?_) (fun c_15 => ?_)
      · exact law_end l C0 hAl hbA hS (lv_sub hl [0, 1, 2, 3] rfl)
      · exact absurd (by decide) c_15
    · refine lv_iconst (v := 1) hx hb dL_law_786 (by decide) ?_
      refine lv_goto (tgt := 791) hx hb dL_law_787 (by decide) ?_
      refine x_calll (w1 := fun (u : Unit) => [(h1, .inr (11, mF zb (upd xI0 54 0) xJ0))]) (wr := [(h0, .inr (10, [.ref (za 0), .ref (za 2), .ref (za 8), .ref (za 13), .ref (za 16), .ref (za 22), .ref (za 25), .ref (za 28), .ref (za 34), .ref (za 40), .ref (za 47)])), ((za 28), .inr (7, [.ref (za 29), .ref (za 30), .ref (za 31), .ref (za 32), .ref (za 33), .int (-1), .int 0, .int 0, .int 0, .int 0, .int 0, .int 0, .long 0]))]) (ws' := fun (u : Unit) => [(h0, .inr (10, [.ref (za 0), .ref (za 2), .ref (za 8), .ref (za 13), .ref (za 16), .ref (za 22), .ref (za 25), .ref (za 28), .ref (za 34), .ref (za 40), .ref (za 47)])), ((za 28), .inr (7, [.ref (za 29), .ref (za 30), .ref (za 31), .ref (za 32), .ref (za 33), .int (-1), .int 0, .int 0, .int 0, .int 0, .int 0, .int 0, .long 0])), (h1, .inr (11, mF zb (upd xI0 54 0) xJ0))]) (va_runV (As := [.int (xs (Int32.toNatClampNeg 1)), .int (xs (Int32.toNatClampNeg 2)), .int (xs (Int32.toNatClampNeg 3)), .int (xs (Int32.toNatClampNeg 4)), .int 1]) (rest := [.long (-2000000000)]) ⟨hx, hb, hml, hown, hts⟩ (m_difference0 l D y H.size h1 zb xI0 xJ0 (xs (Int32.toNatClampNeg 1)) (xs (Int32.toNatClampNeg 2)) (xs (Int32.toNatClampNeg 3)) (xs (Int32.toNatClampNeg 4)) 1) (cwV 5 hts gl_35 rfl rfl rfl (by decide +kernel) ⟨Nat.le_of_ble_eq_true rfl, Nat.le_of_ble_eq_true rfl⟩) (x_preV (q := (RX12, TX12, 85)) hK (x_subP hP [2] rfl) (x_subD hD [2] rfl (by decide)) (ci := 11) (q0 := 0) rfl rfl) rfl rfl hl.1 rfl (lv_room (Nat.le_of_ble_eq_true rfl)) dL_law_791 ⟨Nat.le_of_ble_eq_true rfl, Nat.le_of_ble_eq_true rfl⟩) hP hD hS hA [2] [0, 1] rfl rfl (by decide) (by decide) [0, 1, 2] (fun _ => rfl) (by decide) (fun r_16 u H locs hw hP hD hS => ?_)
      try dsimp only at hw
      obtain rfl : r_16 = (-2000000000) := hw
      have hP : va_P D vwCl [(h0, .inr (10, [.ref (za 0), .ref (za 2), .ref (za 8), .ref (za 13), .ref (za 16), .ref (za 22), .ref (za 25), .ref (za 28), .ref (za 34), .ref (za 40), .ref (za 47)])), ((za 28), .inr (7, [.ref (za 29), .ref (za 30), .ref (za 31), .ref (za 32), .ref (za 33), .int (-1), .int 0, .int 0, .int 0, .int 0, .int 0, .int 0, .long 0])), (h1, .inr (11, mF zb (upd xI0 54 0) xJ0))] H := hP
      have hD : va_D A [(h0, .inr (10, [.ref (za 0), .ref (za 2), .ref (za 8), .ref (za 13), .ref (za 16), .ref (za 22), .ref (za 25), .ref (za 28), .ref (za 34), .ref (za 40), .ref (za 47)])), ((za 28), .inr (7, [.ref (za 29), .ref (za 30), .ref (za 31), .ref (za 32), .ref (za 33), .int (-1), .int 0, .int 0, .int 0, .int 0, .int 0, .int 0, .long 0])), (h1, .inr (11, mF zb (upd xI0 54 0) xJ0))] := hD
      refine W.lcmp hx hb dL_law_794 ?_
      refine lv_if_eq (tgt := 958) hx hb dL_law_795 (by decide) (fun c_17 => ?_) (fun c_17 => ?_)
      · exact law_end l C0 hAl hbA hS (lv_sub hl [0, 1, 2, 3] rfl)
      · exact absurd (by decide) c_17
  · refine lv_iconst (v := 1) hx hb dL_law_749 (by decide) ?_
    refine lv_goto (tgt := 754) hx hb dL_law_750 (by decide) ?_
    refine x_calll (w1 := fun (u : Unit) => [(h0, .inr (10, [.ref (za 0), .ref (za 2), .ref (za 8), .ref (za 13), .ref (za 16), .ref (za 22), .ref (za 25), .ref (za 28), .ref (za 34), .ref (za 40), .ref (za 47)])), ((za 28), .inr (7, [.ref (za 29), .ref (za 30), .ref (za 31), .ref (za 32), .ref (za 33), .int (-1), .int 0, .int 0, .int 0, .int 0, .int 0, .int 0, .long 0]))]) (wr := [(h1, .inr (11, mF zb xI0 xJ0))]) (ws' := fun (u : Unit) => [(h0, .inr (10, [.ref (za 0), .ref (za 2), .ref (za 8), .ref (za 13), .ref (za 16), .ref (za 22), .ref (za 25), .ref (za 28), .ref (za 34), .ref (za 40), .ref (za 47)])), ((za 28), .inr (7, [.ref (za 29), .ref (za 30), .ref (za 31), .ref (za 32), .ref (za 33), .int (-1), .int 0, .int 0, .int 0, .int 0, .int 0, .int 0, .long 0])), (h1, .inr (11, mF zb xI0 xJ0))]) (va_runV (As := [.int (xs (Int32.toNatClampNeg 1)), .int (xs (Int32.toNatClampNeg 2)), .int (xs (Int32.toNatClampNeg 3)), .int (xs (Int32.toNatClampNeg 4)), .int 1]) (rest := []) ⟨hx, hb, hml, hown, hts⟩ (c_difference0 l D y H.size h0 (za 0) (za 2) (za 8) (za 13) (za 16) (za 22) (za 25) (za 28) (za 34) (za 40) (za 47) (za 29) (za 30) (za 31) (za 32) (za 33) (xs (Int32.toNatClampNeg 1)) (xs (Int32.toNatClampNeg 2)) (xs (Int32.toNatClampNeg 3)) (xs (Int32.toNatClampNeg 4)) 1) (cwV 5 hts gl_34 rfl rfl rfl (by decide +kernel) ⟨Nat.le_of_ble_eq_true rfl, Nat.le_of_ble_eq_true rfl⟩) (x_preV (q := (RX11, TX11, 11)) hK (x_subP hP [0, 1] rfl) (x_subD hD [0, 1] rfl (by decide)) (ci := 10) (q0 := 0) rfl rfl) rfl rfl hl.1 rfl (lv_room (Nat.le_of_ble_eq_true rfl)) dL_law_754 ⟨Nat.le_of_ble_eq_true rfl, Nat.le_of_ble_eq_true rfl⟩) hP hD hS hA [0, 1] [2] rfl rfl (by decide) (by decide) [1, 2, 0] (fun _ => rfl) (by decide) (fun r_18 u H locs hw hP hD hS => ?_)
    try dsimp only at hw
    obtain rfl : r_18 = (-2000000000) := hw
    have hP : va_P D vwCl [(h0, .inr (10, [.ref (za 0), .ref (za 2), .ref (za 8), .ref (za 13), .ref (za 16), .ref (za 22), .ref (za 25), .ref (za 28), .ref (za 34), .ref (za 40), .ref (za 47)])), ((za 28), .inr (7, [.ref (za 29), .ref (za 30), .ref (za 31), .ref (za 32), .ref (za 33), .int (-1), .int 0, .int 0, .int 0, .int 0, .int 0, .int 0, .long 0])), (h1, .inr (11, mF zb xI0 xJ0))] H := hP
    have hD : va_D A [(h0, .inr (10, [.ref (za 0), .ref (za 2), .ref (za 8), .ref (za 13), .ref (za 16), .ref (za 22), .ref (za 25), .ref (za 28), .ref (za 34), .ref (za 40), .ref (za 47)])), ((za 28), .inr (7, [.ref (za 29), .ref (za 30), .ref (za 31), .ref (za 32), .ref (za 33), .int (-1), .int 0, .int 0, .int 0, .int 0, .int 0, .int 0, .long 0])), (h1, .inr (11, mF zb xI0 xJ0))] := hD
    refine lv_aload_n hx hb dL_law_757 rfl (lv_at hl 1 rfl) ?_
    refine lv_aload_n hx hb dL_law_758 rfl (lv_at hl 3 rfl) ?_
    refine lv_iload_n hx hb dL_law_759 rfl (lv_at hl 0 rfl) ?_
    refine lv_iconst (v := 1) hx hb dL_law_760 (by decide) ?_
    refine lv_iadd hx hb dL_law_761 ?_
    refine lv_topi (fun i_19 ei_19 => ?_)
    obtain rfl : i_19 = 1 := ei_19.trans (by decide)
    refine va_sld hx hb hX hbl hbA hS (x_in (by decide) (by decide)) dL_law_762 ?_
    refine lv_aload_n hx hb dL_law_763 rfl (lv_at hl 3 rfl) ?_
    refine lv_iload_n hx hb dL_law_764 rfl (lv_at hl 0 rfl) ?_
    refine lv_iconst (v := 2) hx hb dL_law_765 (by decide) ?_
    refine lv_iadd hx hb dL_law_766 ?_
    refine lv_topi (fun i_20 ei_20 => ?_)
    obtain rfl : i_20 = 2 := ei_20.trans (by decide)
    refine va_sld hx hb hX hbl hbA hS (x_in (by decide) (by decide)) dL_law_767 ?_
    refine lv_aload_n hx hb dL_law_768 rfl (lv_at hl 3 rfl) ?_
    refine lv_iload_n hx hb dL_law_769 rfl (lv_at hl 0 rfl) ?_
    refine lv_iconst (v := 3) hx hb dL_law_770 (by decide) ?_
    refine lv_iadd hx hb dL_law_771 ?_
    refine lv_topi (fun i_21 ei_21 => ?_)
    obtain rfl : i_21 = 3 := ei_21.trans (by decide)
    refine va_sld hx hb hX hbl hbA hS (x_in (by decide) (by decide)) dL_law_772 ?_
    refine lv_aload_n hx hb dL_law_773 rfl (lv_at hl 3 rfl) ?_
    refine lv_iload_n hx hb dL_law_774 rfl (lv_at hl 0 rfl) ?_
    refine lv_iconst (v := 4) hx hb dL_law_775 (by decide) ?_
    refine lv_iadd hx hb dL_law_776 ?_
    refine lv_topi (fun i_22 ei_22 => ?_)
    obtain rfl : i_22 = 4 := ei_22.trans (by decide)
    refine va_sld hx hb hX hbl hbA hS (x_in (by decide) (by decide)) dL_law_777 ?_
    refine lv_aload_n hx hb dL_law_778 rfl (lv_at hl 3 rfl) ?_
    refine lv_iload_n hx hb dL_law_779 rfl (lv_at hl 0 rfl) ?_
    refine lv_iconst (v := 5) hx hb dL_law_780 (by decide) ?_
    refine lv_iadd hx hb dL_law_781 ?_
    refine lv_topi (fun i_23 ei_23 => ?_)
    obtain rfl : i_23 = 5 := ei_23.trans (by decide)
    refine va_sld hx hb hX hbl hbA hS (x_in (by decide) (by decide)) dL_law_782 ?_
    refine lv_if_eq (tgt := 790) hx hb dL_law_783 (by decide) (fun c_24 => ?_) (fun c_24 => ?_)
    · refine lv_iconst (v := 0) hx hb dL_law_790 (by decide) ?_
      refine x_calll (w1 := fun (u : Unit) => [(h1, .inr (11, mF zb (upd xI0 54 0) xJ0))]) (wr := [(h0, .inr (10, [.ref (za 0), .ref (za 2), .ref (za 8), .ref (za 13), .ref (za 16), .ref (za 22), .ref (za 25), .ref (za 28), .ref (za 34), .ref (za 40), .ref (za 47)])), ((za 28), .inr (7, [.ref (za 29), .ref (za 30), .ref (za 31), .ref (za 32), .ref (za 33), .int (-1), .int 0, .int 0, .int 0, .int 0, .int 0, .int 0, .long 0]))]) (ws' := fun (u : Unit) => [(h0, .inr (10, [.ref (za 0), .ref (za 2), .ref (za 8), .ref (za 13), .ref (za 16), .ref (za 22), .ref (za 25), .ref (za 28), .ref (za 34), .ref (za 40), .ref (za 47)])), ((za 28), .inr (7, [.ref (za 29), .ref (za 30), .ref (za 31), .ref (za 32), .ref (za 33), .int (-1), .int 0, .int 0, .int 0, .int 0, .int 0, .int 0, .long 0])), (h1, .inr (11, mF zb (upd xI0 54 0) xJ0))]) (va_runV (As := [.int (xs (Int32.toNatClampNeg 1)), .int (xs (Int32.toNatClampNeg 2)), .int (xs (Int32.toNatClampNeg 3)), .int (xs (Int32.toNatClampNeg 4)), .int 0]) (rest := [.long (-2000000000)]) ⟨hx, hb, hml, hown, hts⟩ (m_difference0 l D y H.size h1 zb xI0 xJ0 (xs (Int32.toNatClampNeg 1)) (xs (Int32.toNatClampNeg 2)) (xs (Int32.toNatClampNeg 3)) (xs (Int32.toNatClampNeg 4)) 0) (cwV 5 hts gl_35 rfl rfl rfl (by decide +kernel) ⟨Nat.le_of_ble_eq_true rfl, Nat.le_of_ble_eq_true rfl⟩) (x_preV (q := (RX12, TX12, 85)) hK (x_subP hP [2] rfl) (x_subD hD [2] rfl (by decide)) (ci := 11) (q0 := 0) rfl rfl) rfl rfl hl.1 rfl (lv_room (Nat.le_of_ble_eq_true rfl)) dL_law_791 ⟨Nat.le_of_ble_eq_true rfl, Nat.le_of_ble_eq_true rfl⟩) hP hD hS hA [2] [0, 1] rfl rfl (by decide) (by decide) [0, 1, 2] (fun _ => rfl) (by decide) (fun r_25 u H locs hw hP hD hS => ?_)
      try dsimp only at hw
      obtain rfl : r_25 = (-2000000000) := hw
      have hP : va_P D vwCl [(h0, .inr (10, [.ref (za 0), .ref (za 2), .ref (za 8), .ref (za 13), .ref (za 16), .ref (za 22), .ref (za 25), .ref (za 28), .ref (za 34), .ref (za 40), .ref (za 47)])), ((za 28), .inr (7, [.ref (za 29), .ref (za 30), .ref (za 31), .ref (za 32), .ref (za 33), .int (-1), .int 0, .int 0, .int 0, .int 0, .int 0, .int 0, .long 0])), (h1, .inr (11, mF zb (upd xI0 54 0) xJ0))] H := hP
      have hD : va_D A [(h0, .inr (10, [.ref (za 0), .ref (za 2), .ref (za 8), .ref (za 13), .ref (za 16), .ref (za 22), .ref (za 25), .ref (za 28), .ref (za 34), .ref (za 40), .ref (za 47)])), ((za 28), .inr (7, [.ref (za 29), .ref (za 30), .ref (za 31), .ref (za 32), .ref (za 33), .int (-1), .int 0, .int 0, .int 0, .int 0, .int 0, .int 0, .long 0])), (h1, .inr (11, mF zb (upd xI0 54 0) xJ0))] := hD
      refine W.lcmp hx hb dL_law_794 ?_
      refine lv_if_eq (tgt := 958) hx hb dL_law_795 (by decide) (fun c_26 => ?_) (fun c_26 => ?_)
      · exact law_end l C0 hAl hbA hS (lv_sub hl [0, 1, 2, 3] rfl)
      · exact absurd (by decide) c_26
    · refine lv_iconst (v := 1) hx hb dL_law_786 (by decide) ?_
      refine lv_goto (tgt := 791) hx hb dL_law_787 (by decide) ?_
      refine x_calll (w1 := fun (u : Unit) => [(h1, .inr (11, mF zb (upd xI0 54 0) xJ0))]) (wr := [(h0, .inr (10, [.ref (za 0), .ref (za 2), .ref (za 8), .ref (za 13), .ref (za 16), .ref (za 22), .ref (za 25), .ref (za 28), .ref (za 34), .ref (za 40), .ref (za 47)])), ((za 28), .inr (7, [.ref (za 29), .ref (za 30), .ref (za 31), .ref (za 32), .ref (za 33), .int (-1), .int 0, .int 0, .int 0, .int 0, .int 0, .int 0, .long 0]))]) (ws' := fun (u : Unit) => [(h0, .inr (10, [.ref (za 0), .ref (za 2), .ref (za 8), .ref (za 13), .ref (za 16), .ref (za 22), .ref (za 25), .ref (za 28), .ref (za 34), .ref (za 40), .ref (za 47)])), ((za 28), .inr (7, [.ref (za 29), .ref (za 30), .ref (za 31), .ref (za 32), .ref (za 33), .int (-1), .int 0, .int 0, .int 0, .int 0, .int 0, .int 0, .long 0])), (h1, .inr (11, mF zb (upd xI0 54 0) xJ0))]) (va_runV (As := [.int (xs (Int32.toNatClampNeg 1)), .int (xs (Int32.toNatClampNeg 2)), .int (xs (Int32.toNatClampNeg 3)), .int (xs (Int32.toNatClampNeg 4)), .int 1]) (rest := [.long (-2000000000)]) ⟨hx, hb, hml, hown, hts⟩ (m_difference0 l D y H.size h1 zb xI0 xJ0 (xs (Int32.toNatClampNeg 1)) (xs (Int32.toNatClampNeg 2)) (xs (Int32.toNatClampNeg 3)) (xs (Int32.toNatClampNeg 4)) 1) (cwV 5 hts gl_35 rfl rfl rfl (by decide +kernel) ⟨Nat.le_of_ble_eq_true rfl, Nat.le_of_ble_eq_true rfl⟩) (x_preV (q := (RX12, TX12, 85)) hK (x_subP hP [2] rfl) (x_subD hD [2] rfl (by decide)) (ci := 11) (q0 := 0) rfl rfl) rfl rfl hl.1 rfl (lv_room (Nat.le_of_ble_eq_true rfl)) dL_law_791 ⟨Nat.le_of_ble_eq_true rfl, Nat.le_of_ble_eq_true rfl⟩) hP hD hS hA [2] [0, 1] rfl rfl (by decide) (by decide) [0, 1, 2] (fun _ => rfl) (by decide) (fun r_27 u H locs hw hP hD hS => ?_)
      try dsimp only at hw
      obtain rfl : r_27 = (-2000000000) := hw
      have hP : va_P D vwCl [(h0, .inr (10, [.ref (za 0), .ref (za 2), .ref (za 8), .ref (za 13), .ref (za 16), .ref (za 22), .ref (za 25), .ref (za 28), .ref (za 34), .ref (za 40), .ref (za 47)])), ((za 28), .inr (7, [.ref (za 29), .ref (za 30), .ref (za 31), .ref (za 32), .ref (za 33), .int (-1), .int 0, .int 0, .int 0, .int 0, .int 0, .int 0, .long 0])), (h1, .inr (11, mF zb (upd xI0 54 0) xJ0))] H := hP
      have hD : va_D A [(h0, .inr (10, [.ref (za 0), .ref (za 2), .ref (za 8), .ref (za 13), .ref (za 16), .ref (za 22), .ref (za 25), .ref (za 28), .ref (za 34), .ref (za 40), .ref (za 47)])), ((za 28), .inr (7, [.ref (za 29), .ref (za 30), .ref (za 31), .ref (za 32), .ref (za 33), .int (-1), .int 0, .int 0, .int 0, .int 0, .int 0, .int 0, .long 0])), (h1, .inr (11, mF zb (upd xI0 54 0) xJ0))] := hD
      refine W.lcmp hx hb dL_law_794 ?_
      refine lv_if_eq (tgt := 958) hx hb dL_law_795 (by decide) (fun c_28 => ?_) (fun c_28 => ?_)
      · exact law_end l C0 hAl hbA hS (lv_sub hl [0, 1, 2, 3] rfl)
      · exact absurd (by decide) c_28
set_option maxHeartbeats 4000000 in
set_option maxRecDepth 100000 in
theorem law_case_17 {D : va_G} {y : Nat → ClassId} {za zb r1 r2 : Nat → Nat} {zw : Nat → Nat → Int32} {ow ub : Nat → Int64} {p : Program} {e : Env} {s : State} {m : MethodId} {below : List Frame} {meth : Method} {c : Code} (l : Launch) {b : Nat} {xs : Nat → Int32} {A : Nat → Prop} {H : Heap} {locs : List Loc} {ls : Array Slot} {h0 h1 : Nat} (C0 : lw_At p s m meth c b 6 xs) (hAl : ∀ q, A q → s.heap.size ≤ q) (hbA : ¬ A b) (hS : va_S A s.heap H locs) (hl : lv_has ls 4 [(3, .int 0), (2, .ref h1), (1, .ref h0), (0, .ref b)]) (hA : ∀ q, s.heap.size ≤ q → A q) (hK : va_K D vwCl (xT y) s) (hP : va_P D vwCl (mW y h1 (zb, zw, ub) ++ xW y h0 (za, r1, r2, ow)) H) (hD : va_D A (mW y h1 (zb, zw, ub) ++ xW y h0 (za, r1, r2, ow))) : W p l e room_1 s m #[Value.ref b] below meth c H locs 135 68060 (lw_Z below #[Value.ref b] s) (F0 m 800 ls []) := by
  obtain ⟨hx, hb, hr, hml, hown, hts, hX, hbl, hlocks, hgv⟩ := id C0
  have hown : s.vm.findClass RL = some m.cls := hown
  have hP : va_P D vwCl [(h0, .inr (10, [.ref (za 0), .ref (za 2), .ref (za 8), .ref (za 13), .ref (za 16), .ref (za 22), .ref (za 25), .ref (za 28), .ref (za 34), .ref (za 40), .ref (za 47)])), ((za 28), .inr (7, [.ref (za 29), .ref (za 30), .ref (za 31), .ref (za 32), .ref (za 33), .int (-1), .int 0, .int 0, .int 0, .int 0, .int 0, .int 0, .long 0])), (h1, .inr (11, mF zb xI0 xJ0))] H := x_subP hP [58, 79, 0] rfl
  have hD : va_D A [(h0, .inr (10, [.ref (za 0), .ref (za 2), .ref (za 8), .ref (za 13), .ref (za 16), .ref (za 22), .ref (za 25), .ref (za 28), .ref (za 34), .ref (za 40), .ref (za 47)])), ((za 28), .inr (7, [.ref (za 29), .ref (za 30), .ref (za 31), .ref (za 32), .ref (za 33), .int (-1), .int 0, .int 0, .int 0, .int 0, .int 0, .int 0, .long 0])), (h1, .inr (11, mF zb xI0 xJ0))] := x_subD hD [58, 79, 0] rfl (by decide)
  refine lv_aload_n hx hb dL_law_800 rfl (lv_at hl 2 rfl) ?_
  refine lv_aload_n hx hb dL_law_801 rfl (lv_at hl 3 rfl) ?_
  refine lv_iload_n hx hb dL_law_802 rfl (lv_at hl 0 rfl) ?_
  refine lv_iconst (v := 1) hx hb dL_law_803 (by decide) ?_
  refine lv_iadd hx hb dL_law_804 ?_
  refine lv_topi (fun i_1 ei_1 => ?_)
  obtain rfl : i_1 = 1 := ei_1.trans (by decide)
  refine va_sld hx hb hX hbl hbA hS (x_in (by decide) (by decide)) dL_law_805 ?_
  refine x_calli (w1 := fun (u : Unit) => [(h0, .inr (10, [.ref (za 0), .ref (za 2), .ref (za 8), .ref (za 13), .ref (za 16), .ref (za 22), .ref (za 25), .ref (za 28), .ref (za 34), .ref (za 40), .ref (za 47)])), ((za 28), .inr (7, [.ref (za 29), .ref (za 30), .ref (za 31), .ref (za 32), .ref (za 33), .int (-1), .int 0, .int 0, .int 0, .int 0, .int 0, .int 0, .long 0]))]) (wr := [(h1, .inr (11, mF zb xI0 xJ0))]) (ws' := fun (u : Unit) => [(h0, .inr (10, [.ref (za 0), .ref (za 2), .ref (za 8), .ref (za 13), .ref (za 16), .ref (za 22), .ref (za 25), .ref (za 28), .ref (za 34), .ref (za 40), .ref (za 47)])), ((za 28), .inr (7, [.ref (za 29), .ref (za 30), .ref (za 31), .ref (za 32), .ref (za 33), .int (-1), .int 0, .int 0, .int 0, .int 0, .int 0, .int 0, .long 0])), (h1, .inr (11, mF zb xI0 xJ0))]) (va_runV (As := [.int (xs (Int32.toNatClampNeg 1))]) (rest := []) ⟨hx, hb, hml, hown, hts⟩ (c_moves0 l D y H.size h0 (za 0) (za 2) (za 8) (za 13) (za 16) (za 22) (za 25) (za 28) (za 34) (za 40) (za 47) (za 29) (za 30) (za 31) (za 32) (za 33) (xs (Int32.toNatClampNeg 1))) (cwV 1 hts gl_36 rfl rfl rfl (by decide +kernel) ⟨Nat.le_of_ble_eq_true rfl, Nat.le_of_ble_eq_true rfl⟩) (x_preV (q := (RX11, TX11, 11)) hK (x_subP hP [0, 1] rfl) (x_subD hD [0, 1] rfl (by decide)) (ci := 10) (q0 := 0) rfl rfl) rfl rfl hl.1 rfl (lv_room (Nat.le_of_ble_eq_true rfl)) dL_law_806 ⟨Nat.le_of_ble_eq_true rfl, Nat.le_of_ble_eq_true rfl⟩) hP hD hS hA [0, 1] [2] rfl rfl (by decide) (by decide) [1, 2, 0] (fun _ => rfl) (by decide) (fun r_2 u H locs hw hP hD hS => ?_)
  try dsimp only at hw
  obtain rfl : r_2 = (-1) := hw
  have hP : va_P D vwCl [(h0, .inr (10, [.ref (za 0), .ref (za 2), .ref (za 8), .ref (za 13), .ref (za 16), .ref (za 22), .ref (za 25), .ref (za 28), .ref (za 34), .ref (za 40), .ref (za 47)])), ((za 28), .inr (7, [.ref (za 29), .ref (za 30), .ref (za 31), .ref (za 32), .ref (za 33), .int (-1), .int 0, .int 0, .int 0, .int 0, .int 0, .int 0, .long 0])), (h1, .inr (11, mF zb xI0 xJ0))] H := hP
  have hD : va_D A [(h0, .inr (10, [.ref (za 0), .ref (za 2), .ref (za 8), .ref (za 13), .ref (za 16), .ref (za 22), .ref (za 25), .ref (za 28), .ref (za 34), .ref (za 40), .ref (za 47)])), ((za 28), .inr (7, [.ref (za 29), .ref (za 30), .ref (za 31), .ref (za 32), .ref (za 33), .int (-1), .int 0, .int 0, .int 0, .int 0, .int 0, .int 0, .long 0])), (h1, .inr (11, mF zb xI0 xJ0))] := hD
  refine lv_aload_n hx hb dL_law_809 rfl (lv_at hl 1 rfl) ?_
  refine lv_aload_n hx hb dL_law_810 rfl (lv_at hl 3 rfl) ?_
  refine lv_iload_n hx hb dL_law_811 rfl (lv_at hl 0 rfl) ?_
  refine lv_iconst (v := 1) hx hb dL_law_812 (by decide) ?_
  refine lv_iadd hx hb dL_law_813 ?_
  refine lv_topi (fun i_3 ei_3 => ?_)
  obtain rfl : i_3 = 1 := ei_3.trans (by decide)
  refine va_sld hx hb hX hbl hbA hS (x_in (by decide) (by decide)) dL_law_814 ?_
  refine x_calli (w1 := fun (u : Unit) => [(h1, .inr (11, mF zb (upd xI0 54 0) xJ0))]) (wr := [(h0, .inr (10, [.ref (za 0), .ref (za 2), .ref (za 8), .ref (za 13), .ref (za 16), .ref (za 22), .ref (za 25), .ref (za 28), .ref (za 34), .ref (za 40), .ref (za 47)])), ((za 28), .inr (7, [.ref (za 29), .ref (za 30), .ref (za 31), .ref (za 32), .ref (za 33), .int (-1), .int 0, .int 0, .int 0, .int 0, .int 0, .int 0, .long 0]))]) (ws' := fun (u : Unit) => [(h0, .inr (10, [.ref (za 0), .ref (za 2), .ref (za 8), .ref (za 13), .ref (za 16), .ref (za 22), .ref (za 25), .ref (za 28), .ref (za 34), .ref (za 40), .ref (za 47)])), ((za 28), .inr (7, [.ref (za 29), .ref (za 30), .ref (za 31), .ref (za 32), .ref (za 33), .int (-1), .int 0, .int 0, .int 0, .int 0, .int 0, .int 0, .long 0])), (h1, .inr (11, mF zb (upd xI0 54 0) xJ0))]) (va_runV (As := [.int (xs (Int32.toNatClampNeg 1))]) (rest := [.int (-1)]) ⟨hx, hb, hml, hown, hts⟩ (m_moves0 l D y H.size h1 zb xI0 xJ0 (xs (Int32.toNatClampNeg 1))) (cwV 1 hts gl_37 rfl rfl rfl (by decide +kernel) ⟨Nat.le_of_ble_eq_true rfl, Nat.le_of_ble_eq_true rfl⟩) (x_preV (q := (RX12, TX12, 85)) hK (x_subP hP [2] rfl) (x_subD hD [2] rfl (by decide)) (ci := 11) (q0 := 0) rfl rfl) rfl rfl hl.1 rfl (lv_room (Nat.le_of_ble_eq_true rfl)) dL_law_815 ⟨Nat.le_of_ble_eq_true rfl, Nat.le_of_ble_eq_true rfl⟩) hP hD hS hA [2] [0, 1] rfl rfl (by decide) (by decide) [0, 1, 2] (fun _ => rfl) (by decide) (fun r_4 u H locs hw hP hD hS => ?_)
  try dsimp only at hw
  obtain rfl : r_4 = (-1) := hw
  have hP : va_P D vwCl [(h0, .inr (10, [.ref (za 0), .ref (za 2), .ref (za 8), .ref (za 13), .ref (za 16), .ref (za 22), .ref (za 25), .ref (za 28), .ref (za 34), .ref (za 40), .ref (za 47)])), ((za 28), .inr (7, [.ref (za 29), .ref (za 30), .ref (za 31), .ref (za 32), .ref (za 33), .int (-1), .int 0, .int 0, .int 0, .int 0, .int 0, .int 0, .long 0])), (h1, .inr (11, mF zb (upd xI0 54 0) xJ0))] H := hP
  have hD : va_D A [(h0, .inr (10, [.ref (za 0), .ref (za 2), .ref (za 8), .ref (za 13), .ref (za 16), .ref (za 22), .ref (za 25), .ref (za 28), .ref (za 34), .ref (za 40), .ref (za 47)])), ((za 28), .inr (7, [.ref (za 29), .ref (za 30), .ref (za 31), .ref (za 32), .ref (za 33), .int (-1), .int 0, .int 0, .int 0, .int 0, .int 0, .int 0, .long 0])), (h1, .inr (11, mF zb (upd xI0 54 0) xJ0))] := hD
  refine lv_icmp_eq (tgt := 958) hx hb dL_law_818 (by decide) (fun c_5 => ?_) (fun c_5 => ?_)
  · exact law_end l C0 hAl hbA hS (lv_sub hl [0, 1, 2, 3] rfl)
  · exact absurd (by decide) c_5
set_option maxHeartbeats 4000000 in
set_option maxRecDepth 100000 in
theorem law_case_18 {D : va_G} {y : Nat → ClassId} {za zb r1 r2 : Nat → Nat} {zw : Nat → Nat → Int32} {ow ub : Nat → Int64} {p : Program} {e : Env} {s : State} {m : MethodId} {below : List Frame} {meth : Method} {c : Code} (l : Launch) {b : Nat} {xs : Nat → Int32} {A : Nat → Prop} {H : Heap} {locs : List Loc} {ls : Array Slot} {h0 h1 : Nat} (C0 : lw_At p s m meth c b 6 xs) (hAl : ∀ q, A q → s.heap.size ≤ q) (hbA : ¬ A b) (hS : va_S A s.heap H locs) (hl : lv_has ls 4 [(3, .int 0), (2, .ref h1), (1, .ref h0), (0, .ref b)]) (hA : ∀ q, s.heap.size ≤ q → A q) (hK : va_K D vwCl (xT y) s) (hP : va_P D vwCl (mW y h1 (zb, zw, ub) ++ xW y h0 (za, r1, r2, ow)) H) (hD : va_D A (mW y h1 (zb, zw, ub) ++ xW y h0 (za, r1, r2, ow))) : W p l e room_1 s m #[Value.ref b] below meth c H locs 135 68060 (lw_Z below #[Value.ref b] s) (F0 m 823 ls []) := by
  obtain ⟨hx, hb, hr, hml, hown, hts, hX, hbl, hlocks, hgv⟩ := id C0
  have hown : s.vm.findClass RL = some m.cls := hown
  have hP : va_P D vwCl [(h0, .inr (10, [.ref (za 0), .ref (za 2), .ref (za 8), .ref (za 13), .ref (za 16), .ref (za 22), .ref (za 25), .ref (za 28), .ref (za 34), .ref (za 40), .ref (za 47)])), ((za 28), .inr (7, [.ref (za 29), .ref (za 30), .ref (za 31), .ref (za 32), .ref (za 33), .int (-1), .int 0, .int 0, .int 0, .int 0, .int 0, .int 0, .long 0])), (h1, .inr (11, mF zb xI0 xJ0))] H := x_subP hP [58, 79, 0] rfl
  have hD : va_D A [(h0, .inr (10, [.ref (za 0), .ref (za 2), .ref (za 8), .ref (za 13), .ref (za 16), .ref (za 22), .ref (za 25), .ref (za 28), .ref (za 34), .ref (za 40), .ref (za 47)])), ((za 28), .inr (7, [.ref (za 29), .ref (za 30), .ref (za 31), .ref (za 32), .ref (za 33), .int (-1), .int 0, .int 0, .int 0, .int 0, .int 0, .int 0, .long 0])), (h1, .inr (11, mF zb xI0 xJ0))] := x_subD hD [58, 79, 0] rfl (by decide)
  refine lv_aload_n hx hb dL_law_823 rfl (lv_at hl 2 rfl) ?_
  refine lv_aload_n hx hb dL_law_824 rfl (lv_at hl 3 rfl) ?_
  refine lv_iload_n hx hb dL_law_825 rfl (lv_at hl 0 rfl) ?_
  refine lv_iconst (v := 1) hx hb dL_law_826 (by decide) ?_
  refine lv_iadd hx hb dL_law_827 ?_
  refine lv_topi (fun i_1 ei_1 => ?_)
  obtain rfl : i_1 = 1 := ei_1.trans (by decide)
  refine va_sld hx hb hX hbl hbA hS (x_in (by decide) (by decide)) dL_law_828 ?_
  refine lv_aload_n hx hb dL_law_829 rfl (lv_at hl 3 rfl) ?_
  refine lv_iload_n hx hb dL_law_830 rfl (lv_at hl 0 rfl) ?_
  refine lv_iconst (v := 2) hx hb dL_law_831 (by decide) ?_
  refine lv_iadd hx hb dL_law_832 ?_
  refine lv_topi (fun i_2 ei_2 => ?_)
  obtain rfl : i_2 = 2 := ei_2.trans (by decide)
  refine va_sld hx hb hX hbl hbA hS (x_in (by decide) (by decide)) dL_law_833 ?_
  refine x_calli (w1 := fun (u : Unit) => [(h0, .inr (10, [.ref (za 0), .ref (za 2), .ref (za 8), .ref (za 13), .ref (za 16), .ref (za 22), .ref (za 25), .ref (za 28), .ref (za 34), .ref (za 40), .ref (za 47)])), ((za 28), .inr (7, [.ref (za 29), .ref (za 30), .ref (za 31), .ref (za 32), .ref (za 33), .int (-1), .int 0, .int 0, .int 0, .int 0, .int 0, .int 0, .long 0]))]) (wr := [(h1, .inr (11, mF zb xI0 xJ0))]) (ws' := fun (u : Unit) => [(h0, .inr (10, [.ref (za 0), .ref (za 2), .ref (za 8), .ref (za 13), .ref (za 16), .ref (za 22), .ref (za 25), .ref (za 28), .ref (za 34), .ref (za 40), .ref (za 47)])), ((za 28), .inr (7, [.ref (za 29), .ref (za 30), .ref (za 31), .ref (za 32), .ref (za 33), .int (-1), .int 0, .int 0, .int 0, .int 0, .int 0, .int 0, .long 0])), (h1, .inr (11, mF zb xI0 xJ0))]) (va_runV (As := [.int (xs (Int32.toNatClampNeg 1)), .int (xs (Int32.toNatClampNeg 2))]) (rest := []) ⟨hx, hb, hml, hown, hts⟩ (c_ways0 l D y H.size h0 (za 0) (za 2) (za 8) (za 13) (za 16) (za 22) (za 25) (za 28) (za 34) (za 40) (za 47) (za 29) (za 30) (za 31) (za 32) (za 33) (xs (Int32.toNatClampNeg 1)) (xs (Int32.toNatClampNeg 2))) (cwV 2 hts gl_38 rfl rfl rfl (by decide +kernel) ⟨Nat.le_of_ble_eq_true rfl, Nat.le_of_ble_eq_true rfl⟩) (x_preV (q := (RX11, TX11, 11)) hK (x_subP hP [0, 1] rfl) (x_subD hD [0, 1] rfl (by decide)) (ci := 10) (q0 := 0) rfl rfl) rfl rfl hl.1 rfl (lv_room (Nat.le_of_ble_eq_true rfl)) dL_law_834 ⟨Nat.le_of_ble_eq_true rfl, Nat.le_of_ble_eq_true rfl⟩) hP hD hS hA [0, 1] [2] rfl rfl (by decide) (by decide) [1, 2, 0] (fun _ => rfl) (by decide) (fun r_3 u H locs hw hP hD hS => ?_)
  try dsimp only at hw
  obtain rfl : r_3 = (-1) := hw
  have hP : va_P D vwCl [(h0, .inr (10, [.ref (za 0), .ref (za 2), .ref (za 8), .ref (za 13), .ref (za 16), .ref (za 22), .ref (za 25), .ref (za 28), .ref (za 34), .ref (za 40), .ref (za 47)])), ((za 28), .inr (7, [.ref (za 29), .ref (za 30), .ref (za 31), .ref (za 32), .ref (za 33), .int (-1), .int 0, .int 0, .int 0, .int 0, .int 0, .int 0, .long 0])), (h1, .inr (11, mF zb xI0 xJ0))] H := hP
  have hD : va_D A [(h0, .inr (10, [.ref (za 0), .ref (za 2), .ref (za 8), .ref (za 13), .ref (za 16), .ref (za 22), .ref (za 25), .ref (za 28), .ref (za 34), .ref (za 40), .ref (za 47)])), ((za 28), .inr (7, [.ref (za 29), .ref (za 30), .ref (za 31), .ref (za 32), .ref (za 33), .int (-1), .int 0, .int 0, .int 0, .int 0, .int 0, .int 0, .long 0])), (h1, .inr (11, mF zb xI0 xJ0))] := hD
  refine lv_aload_n hx hb dL_law_837 rfl (lv_at hl 1 rfl) ?_
  refine lv_aload_n hx hb dL_law_838 rfl (lv_at hl 3 rfl) ?_
  refine lv_iload_n hx hb dL_law_839 rfl (lv_at hl 0 rfl) ?_
  refine lv_iconst (v := 1) hx hb dL_law_840 (by decide) ?_
  refine lv_iadd hx hb dL_law_841 ?_
  refine lv_topi (fun i_4 ei_4 => ?_)
  obtain rfl : i_4 = 1 := ei_4.trans (by decide)
  refine va_sld hx hb hX hbl hbA hS (x_in (by decide) (by decide)) dL_law_842 ?_
  refine lv_aload_n hx hb dL_law_843 rfl (lv_at hl 3 rfl) ?_
  refine lv_iload_n hx hb dL_law_844 rfl (lv_at hl 0 rfl) ?_
  refine lv_iconst (v := 2) hx hb dL_law_845 (by decide) ?_
  refine lv_iadd hx hb dL_law_846 ?_
  refine lv_topi (fun i_5 ei_5 => ?_)
  obtain rfl : i_5 = 2 := ei_5.trans (by decide)
  refine va_sld hx hb hX hbl hbA hS (x_in (by decide) (by decide)) dL_law_847 ?_
  refine x_calli (w1 := fun (u : Unit) => [(h1, .inr (11, mF zb (upd xI0 54 0) xJ0))]) (wr := [(h0, .inr (10, [.ref (za 0), .ref (za 2), .ref (za 8), .ref (za 13), .ref (za 16), .ref (za 22), .ref (za 25), .ref (za 28), .ref (za 34), .ref (za 40), .ref (za 47)])), ((za 28), .inr (7, [.ref (za 29), .ref (za 30), .ref (za 31), .ref (za 32), .ref (za 33), .int (-1), .int 0, .int 0, .int 0, .int 0, .int 0, .int 0, .long 0]))]) (ws' := fun (u : Unit) => [(h0, .inr (10, [.ref (za 0), .ref (za 2), .ref (za 8), .ref (za 13), .ref (za 16), .ref (za 22), .ref (za 25), .ref (za 28), .ref (za 34), .ref (za 40), .ref (za 47)])), ((za 28), .inr (7, [.ref (za 29), .ref (za 30), .ref (za 31), .ref (za 32), .ref (za 33), .int (-1), .int 0, .int 0, .int 0, .int 0, .int 0, .int 0, .long 0])), (h1, .inr (11, mF zb (upd xI0 54 0) xJ0))]) (va_runV (As := [.int (xs (Int32.toNatClampNeg 1)), .int (xs (Int32.toNatClampNeg 2))]) (rest := [.int (-1)]) ⟨hx, hb, hml, hown, hts⟩ (m_ways0 l D y H.size h1 zb xI0 xJ0 (xs (Int32.toNatClampNeg 1)) (xs (Int32.toNatClampNeg 2))) (cwV 2 hts gl_39 rfl rfl rfl (by decide +kernel) ⟨Nat.le_of_ble_eq_true rfl, Nat.le_of_ble_eq_true rfl⟩) (x_preV (q := (RX12, TX12, 85)) hK (x_subP hP [2] rfl) (x_subD hD [2] rfl (by decide)) (ci := 11) (q0 := 0) rfl rfl) rfl rfl hl.1 rfl (lv_room (Nat.le_of_ble_eq_true rfl)) dL_law_848 ⟨Nat.le_of_ble_eq_true rfl, Nat.le_of_ble_eq_true rfl⟩) hP hD hS hA [2] [0, 1] rfl rfl (by decide) (by decide) [0, 1, 2] (fun _ => rfl) (by decide) (fun r_6 u H locs hw hP hD hS => ?_)
  try dsimp only at hw
  obtain rfl : r_6 = (-1) := hw
  have hP : va_P D vwCl [(h0, .inr (10, [.ref (za 0), .ref (za 2), .ref (za 8), .ref (za 13), .ref (za 16), .ref (za 22), .ref (za 25), .ref (za 28), .ref (za 34), .ref (za 40), .ref (za 47)])), ((za 28), .inr (7, [.ref (za 29), .ref (za 30), .ref (za 31), .ref (za 32), .ref (za 33), .int (-1), .int 0, .int 0, .int 0, .int 0, .int 0, .int 0, .long 0])), (h1, .inr (11, mF zb (upd xI0 54 0) xJ0))] H := hP
  have hD : va_D A [(h0, .inr (10, [.ref (za 0), .ref (za 2), .ref (za 8), .ref (za 13), .ref (za 16), .ref (za 22), .ref (za 25), .ref (za 28), .ref (za 34), .ref (za 40), .ref (za 47)])), ((za 28), .inr (7, [.ref (za 29), .ref (za 30), .ref (za 31), .ref (za 32), .ref (za 33), .int (-1), .int 0, .int 0, .int 0, .int 0, .int 0, .int 0, .long 0])), (h1, .inr (11, mF zb (upd xI0 54 0) xJ0))] := hD
  refine lv_icmp_eq (tgt := 958) hx hb dL_law_851 (by decide) (fun c_7 => ?_) (fun c_7 => ?_)
  · exact law_end l C0 hAl hbA hS (lv_sub hl [0, 1, 2, 3] rfl)
  · exact absurd (by decide) c_7
set_option maxHeartbeats 4000000 in
set_option maxRecDepth 100000 in
theorem law_case_19 {D : va_G} {y : Nat → ClassId} {za zb r1 r2 : Nat → Nat} {zw : Nat → Nat → Int32} {ow ub : Nat → Int64} {p : Program} {e : Env} {s : State} {m : MethodId} {below : List Frame} {meth : Method} {c : Code} (l : Launch) {b : Nat} {xs : Nat → Int32} {A : Nat → Prop} {H : Heap} {locs : List Loc} {ls : Array Slot} {h0 h1 : Nat} (C0 : lw_At p s m meth c b 6 xs) (hAl : ∀ q, A q → s.heap.size ≤ q) (hbA : ¬ A b) (hS : va_S A s.heap H locs) (hl : lv_has ls 4 [(3, .int 0), (2, .ref h1), (1, .ref h0), (0, .ref b)]) (hA : ∀ q, s.heap.size ≤ q → A q) (hK : va_K D vwCl (xT y) s) (hP : va_P D vwCl (mW y h1 (zb, zw, ub) ++ xW y h0 (za, r1, r2, ow)) H) (hD : va_D A (mW y h1 (zb, zw, ub) ++ xW y h0 (za, r1, r2, ow))) : W p l e room_1 s m #[Value.ref b] below meth c H locs 135 68060 (lw_Z below #[Value.ref b] s) (F0 m 856 ls []) := by
  obtain ⟨hx, hb, hr, hml, hown, hts, hX, hbl, hlocks, hgv⟩ := id C0
  have hown : s.vm.findClass RL = some m.cls := hown
  have hP : va_P D vwCl [(h0, .inr (10, [.ref (za 0), .ref (za 2), .ref (za 8), .ref (za 13), .ref (za 16), .ref (za 22), .ref (za 25), .ref (za 28), .ref (za 34), .ref (za 40), .ref (za 47)])), ((za 28), .inr (7, [.ref (za 29), .ref (za 30), .ref (za 31), .ref (za 32), .ref (za 33), .int (-1), .int 0, .int 0, .int 0, .int 0, .int 0, .int 0, .long 0])), (h1, .inr (11, mF zb xI0 xJ0))] H := x_subP hP [58, 79, 0] rfl
  have hD : va_D A [(h0, .inr (10, [.ref (za 0), .ref (za 2), .ref (za 8), .ref (za 13), .ref (za 16), .ref (za 22), .ref (za 25), .ref (za 28), .ref (za 34), .ref (za 40), .ref (za 47)])), ((za 28), .inr (7, [.ref (za 29), .ref (za 30), .ref (za 31), .ref (za 32), .ref (za 33), .int (-1), .int 0, .int 0, .int 0, .int 0, .int 0, .int 0, .long 0])), (h1, .inr (11, mF zb xI0 xJ0))] := x_subD hD [58, 79, 0] rfl (by decide)
  refine lv_aload_n hx hb dL_law_856 rfl (lv_at hl 2 rfl) ?_
  refine x_calli (w1 := fun (u : Unit) => [(h0, .inr (10, [.ref (za 0), .ref (za 2), .ref (za 8), .ref (za 13), .ref (za 16), .ref (za 22), .ref (za 25), .ref (za 28), .ref (za 34), .ref (za 40), .ref (za 47)])), ((za 28), .inr (7, [.ref (za 29), .ref (za 30), .ref (za 31), .ref (za 32), .ref (za 33), .int (-1), .int 0, .int 0, .int 0, .int 0, .int 0, .int 0, .long 0]))]) (wr := [(h1, .inr (11, mF zb xI0 xJ0))]) (ws' := fun (u : Unit) => [(h0, .inr (10, [.ref (za 0), .ref (za 2), .ref (za 8), .ref (za 13), .ref (za 16), .ref (za 22), .ref (za 25), .ref (za 28), .ref (za 34), .ref (za 40), .ref (za 47)])), ((za 28), .inr (7, [.ref (za 29), .ref (za 30), .ref (za 31), .ref (za 32), .ref (za 33), .int (-1), .int 0, .int 0, .int 0, .int 0, .int 0, .int 0, .long 0])), (h1, .inr (11, mF zb xI0 xJ0))]) (va_runV (As := []) (rest := []) ⟨hx, hb, hml, hown, hts⟩ (c_groups0 l D y H.size h0 (za 0) (za 2) (za 8) (za 13) (za 16) (za 22) (za 25) (za 28) (za 34) (za 40) (za 47) (za 29) (za 30) (za 31) (za 32) (za 33)) (cwV 0 hts gl_40 rfl rfl rfl (by decide +kernel) ⟨Nat.le_of_ble_eq_true rfl, Nat.le_of_ble_eq_true rfl⟩) (x_preV (q := (RX11, TX11, 11)) hK (x_subP hP [0, 1] rfl) (x_subD hD [0, 1] rfl (by decide)) (ci := 10) (q0 := 0) rfl rfl) rfl rfl hl.1 rfl (lv_room (Nat.le_of_ble_eq_true rfl)) dL_law_857 ⟨Nat.le_of_ble_eq_true rfl, Nat.le_of_ble_eq_true rfl⟩) hP hD hS hA [0, 1] [2] rfl rfl (by decide) (by decide) [1, 2, 0] (fun _ => rfl) (by decide) (fun r_1 u H locs hw hP hD hS => ?_)
  try dsimp only at hw
  obtain rfl : r_1 = (-1) := hw
  have hP : va_P D vwCl [(h0, .inr (10, [.ref (za 0), .ref (za 2), .ref (za 8), .ref (za 13), .ref (za 16), .ref (za 22), .ref (za 25), .ref (za 28), .ref (za 34), .ref (za 40), .ref (za 47)])), ((za 28), .inr (7, [.ref (za 29), .ref (za 30), .ref (za 31), .ref (za 32), .ref (za 33), .int (-1), .int 0, .int 0, .int 0, .int 0, .int 0, .int 0, .long 0])), (h1, .inr (11, mF zb xI0 xJ0))] H := hP
  have hD : va_D A [(h0, .inr (10, [.ref (za 0), .ref (za 2), .ref (za 8), .ref (za 13), .ref (za 16), .ref (za 22), .ref (za 25), .ref (za 28), .ref (za 34), .ref (za 40), .ref (za 47)])), ((za 28), .inr (7, [.ref (za 29), .ref (za 30), .ref (za 31), .ref (za 32), .ref (za 33), .int (-1), .int 0, .int 0, .int 0, .int 0, .int 0, .int 0, .long 0])), (h1, .inr (11, mF zb xI0 xJ0))] := hD
  refine lv_aload_n hx hb dL_law_860 rfl (lv_at hl 1 rfl) ?_
  refine x_calli (w1 := fun (u : Unit) => [(h1, .inr (11, mF zb (upd xI0 54 0) xJ0))]) (wr := [(h0, .inr (10, [.ref (za 0), .ref (za 2), .ref (za 8), .ref (za 13), .ref (za 16), .ref (za 22), .ref (za 25), .ref (za 28), .ref (za 34), .ref (za 40), .ref (za 47)])), ((za 28), .inr (7, [.ref (za 29), .ref (za 30), .ref (za 31), .ref (za 32), .ref (za 33), .int (-1), .int 0, .int 0, .int 0, .int 0, .int 0, .int 0, .long 0]))]) (ws' := fun (u : Unit) => [(h0, .inr (10, [.ref (za 0), .ref (za 2), .ref (za 8), .ref (za 13), .ref (za 16), .ref (za 22), .ref (za 25), .ref (za 28), .ref (za 34), .ref (za 40), .ref (za 47)])), ((za 28), .inr (7, [.ref (za 29), .ref (za 30), .ref (za 31), .ref (za 32), .ref (za 33), .int (-1), .int 0, .int 0, .int 0, .int 0, .int 0, .int 0, .long 0])), (h1, .inr (11, mF zb (upd xI0 54 0) xJ0))]) (va_runV (As := []) (rest := [.int (-1)]) ⟨hx, hb, hml, hown, hts⟩ (m_groups0 l D y H.size h1 zb xI0 xJ0) (cwV 0 hts gl_41 rfl rfl rfl (by decide +kernel) ⟨Nat.le_of_ble_eq_true rfl, Nat.le_of_ble_eq_true rfl⟩) (x_preV (q := (RX12, TX12, 85)) hK (x_subP hP [2] rfl) (x_subD hD [2] rfl (by decide)) (ci := 11) (q0 := 0) rfl rfl) rfl rfl hl.1 rfl (lv_room (Nat.le_of_ble_eq_true rfl)) dL_law_861 ⟨Nat.le_of_ble_eq_true rfl, Nat.le_of_ble_eq_true rfl⟩) hP hD hS hA [2] [0, 1] rfl rfl (by decide) (by decide) [0, 1, 2] (fun _ => rfl) (by decide) (fun r_2 u H locs hw hP hD hS => ?_)
  try dsimp only at hw
  obtain rfl : r_2 = (-1) := hw
  have hP : va_P D vwCl [(h0, .inr (10, [.ref (za 0), .ref (za 2), .ref (za 8), .ref (za 13), .ref (za 16), .ref (za 22), .ref (za 25), .ref (za 28), .ref (za 34), .ref (za 40), .ref (za 47)])), ((za 28), .inr (7, [.ref (za 29), .ref (za 30), .ref (za 31), .ref (za 32), .ref (za 33), .int (-1), .int 0, .int 0, .int 0, .int 0, .int 0, .int 0, .long 0])), (h1, .inr (11, mF zb (upd xI0 54 0) xJ0))] H := hP
  have hD : va_D A [(h0, .inr (10, [.ref (za 0), .ref (za 2), .ref (za 8), .ref (za 13), .ref (za 16), .ref (za 22), .ref (za 25), .ref (za 28), .ref (za 34), .ref (za 40), .ref (za 47)])), ((za 28), .inr (7, [.ref (za 29), .ref (za 30), .ref (za 31), .ref (za 32), .ref (za 33), .int (-1), .int 0, .int 0, .int 0, .int 0, .int 0, .int 0, .long 0])), (h1, .inr (11, mF zb (upd xI0 54 0) xJ0))] := hD
  refine lv_icmp_eq (tgt := 958) hx hb dL_law_864 (by decide) (fun c_3 => ?_) (fun c_3 => ?_)
  · exact law_end l C0 hAl hbA hS (lv_sub hl [0, 1, 2, 3] rfl)
  · exact absurd (by decide) c_3
set_option maxHeartbeats 4000000 in
set_option maxRecDepth 100000 in
theorem law_case_20 {D : va_G} {y : Nat → ClassId} {za zb r1 r2 : Nat → Nat} {zw : Nat → Nat → Int32} {ow ub : Nat → Int64} {p : Program} {e : Env} {s : State} {m : MethodId} {below : List Frame} {meth : Method} {c : Code} (l : Launch) {b : Nat} {xs : Nat → Int32} {A : Nat → Prop} {H : Heap} {locs : List Loc} {ls : Array Slot} {h0 h1 : Nat} (C0 : lw_At p s m meth c b 6 xs) (hAl : ∀ q, A q → s.heap.size ≤ q) (hbA : ¬ A b) (hS : va_S A s.heap H locs) (hl : lv_has ls 4 [(3, .int 0), (2, .ref h1), (1, .ref h0), (0, .ref b)]) (hA : ∀ q, s.heap.size ≤ q → A q) (hK : va_K D vwCl (xT y) s) (hP : va_P D vwCl (mW y h1 (zb, zw, ub) ++ xW y h0 (za, r1, r2, ow)) H) (hD : va_D A (mW y h1 (zb, zw, ub) ++ xW y h0 (za, r1, r2, ow))) : W p l e room_1 s m #[Value.ref b] below meth c H locs 135 68060 (lw_Z below #[Value.ref b] s) (F0 m 869 ls []) := by
  obtain ⟨hx, hb, hr, hml, hown, hts, hX, hbl, hlocks, hgv⟩ := id C0
  have hown : s.vm.findClass RL = some m.cls := hown
  have hP : va_P D vwCl [(h0, .inr (10, [.ref (za 0), .ref (za 2), .ref (za 8), .ref (za 13), .ref (za 16), .ref (za 22), .ref (za 25), .ref (za 28), .ref (za 34), .ref (za 40), .ref (za 47)])), ((za 22), .inr (0, [.ref (za 23), .ref (za 24), .int 0])), ((za 23), .inl (y 2, 8, .inl (fun _ => 0))), (h1, .inr (11, mF zb xI0 xJ0))] H := x_subP hP [58, 110, 111, 0] rfl
  have hD : va_D A [(h0, .inr (10, [.ref (za 0), .ref (za 2), .ref (za 8), .ref (za 13), .ref (za 16), .ref (za 22), .ref (za 25), .ref (za 28), .ref (za 34), .ref (za 40), .ref (za 47)])), ((za 22), .inr (0, [.ref (za 23), .ref (za 24), .int 0])), ((za 23), .inl (y 2, 8, .inl (fun _ => 0))), (h1, .inr (11, mF zb xI0 xJ0))] := x_subD hD [58, 110, 111, 0] rfl (by decide)
  refine lv_aload_n hx hb dL_law_869 rfl (lv_at hl 2 rfl) ?_
  refine lv_aload_n hx hb dL_law_870 rfl (lv_at hl 3 rfl) ?_
  refine lv_iload_n hx hb dL_law_871 rfl (lv_at hl 0 rfl) ?_
  refine lv_iconst (v := 1) hx hb dL_law_872 (by decide) ?_
  refine lv_iadd hx hb dL_law_873 ?_
  refine lv_topi (fun i_1 ei_1 => ?_)
  obtain rfl : i_1 = 1 := ei_1.trans (by decide)
  refine va_sld hx hb hX hbl hbA hS (x_in (by decide) (by decide)) dL_law_874 ?_
  refine x_calli (w1 := fun (u : Unit) => [(h0, .inr (10, [.ref (za 0), .ref (za 2), .ref (za 8), .ref (za 13), .ref (za 16), .ref (za 22), .ref (za 25), .ref (za 28), .ref (za 34), .ref (za 40), .ref (za 47)])), ((za 22), .inr (0, [.ref (za 23), .ref (za 24), .int 0])), ((za 23), .inl (y 2, 8, .inl (fun _ => 0)))]) (wr := [(h1, .inr (11, mF zb xI0 xJ0))]) (ws' := fun (u : Unit) => [(h0, .inr (10, [.ref (za 0), .ref (za 2), .ref (za 8), .ref (za 13), .ref (za 16), .ref (za 22), .ref (za 25), .ref (za 28), .ref (za 34), .ref (za 40), .ref (za 47)])), ((za 22), .inr (0, [.ref (za 23), .ref (za 24), .int 0])), ((za 23), .inl (y 2, 8, .inl (fun _ => 0))), (h1, .inr (11, mF zb xI0 xJ0))]) (va_runV (As := [.int (xs (Int32.toNatClampNeg 1))]) (rest := []) ⟨hx, hb, hml, hown, hts⟩ (c_group0 l D y H.size h0 (za 0) (za 2) (za 8) (za 13) (za 16) (za 22) (za 25) (za 28) (za 34) (za 40) (za 47) (za 23) (za 24) (fun _ => 0) (xs (Int32.toNatClampNeg 1))) (cwV 1 hts gl_42 rfl rfl rfl (by decide +kernel) ⟨Nat.le_of_ble_eq_true rfl, Nat.le_of_ble_eq_true rfl⟩) (x_preV (q := (RX11, TX11, 11)) hK (x_subP hP [0, 1, 2] rfl) (x_subD hD [0, 1, 2] rfl (by decide)) (ci := 10) (q0 := 0) rfl rfl) rfl rfl hl.1 rfl (lv_room (Nat.le_of_ble_eq_true rfl)) dL_law_875 ⟨Nat.le_of_ble_eq_true rfl, Nat.le_of_ble_eq_true rfl⟩) hP hD hS hA [0, 1, 2] [3] rfl rfl (by decide) (by decide) [1, 2, 3, 0] (fun _ => rfl) (by decide) (fun r_2 u H locs hw hP hD hS => ?_)
  try dsimp only at hw
  obtain rfl : r_2 = (-1) := hw
  have hP : va_P D vwCl [(h0, .inr (10, [.ref (za 0), .ref (za 2), .ref (za 8), .ref (za 13), .ref (za 16), .ref (za 22), .ref (za 25), .ref (za 28), .ref (za 34), .ref (za 40), .ref (za 47)])), ((za 22), .inr (0, [.ref (za 23), .ref (za 24), .int 0])), ((za 23), .inl (y 2, 8, .inl (fun _ => 0))), (h1, .inr (11, mF zb xI0 xJ0))] H := hP
  have hD : va_D A [(h0, .inr (10, [.ref (za 0), .ref (za 2), .ref (za 8), .ref (za 13), .ref (za 16), .ref (za 22), .ref (za 25), .ref (za 28), .ref (za 34), .ref (za 40), .ref (za 47)])), ((za 22), .inr (0, [.ref (za 23), .ref (za 24), .int 0])), ((za 23), .inl (y 2, 8, .inl (fun _ => 0))), (h1, .inr (11, mF zb xI0 xJ0))] := hD
  refine lv_aload_n hx hb dL_law_878 rfl (lv_at hl 1 rfl) ?_
  refine lv_aload_n hx hb dL_law_879 rfl (lv_at hl 3 rfl) ?_
  refine lv_iload_n hx hb dL_law_880 rfl (lv_at hl 0 rfl) ?_
  refine lv_iconst (v := 1) hx hb dL_law_881 (by decide) ?_
  refine lv_iadd hx hb dL_law_882 ?_
  refine lv_topi (fun i_3 ei_3 => ?_)
  obtain rfl : i_3 = 1 := ei_3.trans (by decide)
  refine va_sld hx hb hX hbl hbA hS (x_in (by decide) (by decide)) dL_law_883 ?_
  refine x_calli (w1 := fun (u : Unit) => [(h1, .inr (11, mF zb (upd xI0 78 0) xJ0))]) (wr := [(h0, .inr (10, [.ref (za 0), .ref (za 2), .ref (za 8), .ref (za 13), .ref (za 16), .ref (za 22), .ref (za 25), .ref (za 28), .ref (za 34), .ref (za 40), .ref (za 47)])), ((za 22), .inr (0, [.ref (za 23), .ref (za 24), .int 0])), ((za 23), .inl (y 2, 8, .inl (fun _ => 0)))]) (ws' := fun (u : Unit) => [(h0, .inr (10, [.ref (za 0), .ref (za 2), .ref (za 8), .ref (za 13), .ref (za 16), .ref (za 22), .ref (za 25), .ref (za 28), .ref (za 34), .ref (za 40), .ref (za 47)])), ((za 22), .inr (0, [.ref (za 23), .ref (za 24), .int 0])), ((za 23), .inl (y 2, 8, .inl (fun _ => 0))), (h1, .inr (11, mF zb (upd xI0 78 0) xJ0))]) (va_runV (As := [.int (xs (Int32.toNatClampNeg 1))]) (rest := [.int (-1)]) ⟨hx, hb, hml, hown, hts⟩ (m_group0 l D y H.size h1 zb xI0 xJ0 (xs (Int32.toNatClampNeg 1))) (cwV 1 hts gl_43 rfl rfl rfl (by decide +kernel) ⟨Nat.le_of_ble_eq_true rfl, Nat.le_of_ble_eq_true rfl⟩) (x_preV (q := (RX12, TX12, 85)) hK (x_subP hP [3] rfl) (x_subD hD [3] rfl (by decide)) (ci := 11) (q0 := 0) rfl rfl) rfl rfl hl.1 rfl (lv_room (Nat.le_of_ble_eq_true rfl)) dL_law_884 ⟨Nat.le_of_ble_eq_true rfl, Nat.le_of_ble_eq_true rfl⟩) hP hD hS hA [3] [0, 1, 2] rfl rfl (by decide) (by decide) [0, 1, 2, 3] (fun _ => rfl) (by decide) (fun r_4 u H locs hw hP hD hS => ?_)
  try dsimp only at hw
  obtain rfl : r_4 = (-1) := hw
  have hP : va_P D vwCl [(h0, .inr (10, [.ref (za 0), .ref (za 2), .ref (za 8), .ref (za 13), .ref (za 16), .ref (za 22), .ref (za 25), .ref (za 28), .ref (za 34), .ref (za 40), .ref (za 47)])), ((za 22), .inr (0, [.ref (za 23), .ref (za 24), .int 0])), ((za 23), .inl (y 2, 8, .inl (fun _ => 0))), (h1, .inr (11, mF zb (upd xI0 78 0) xJ0))] H := hP
  have hD : va_D A [(h0, .inr (10, [.ref (za 0), .ref (za 2), .ref (za 8), .ref (za 13), .ref (za 16), .ref (za 22), .ref (za 25), .ref (za 28), .ref (za 34), .ref (za 40), .ref (za 47)])), ((za 22), .inr (0, [.ref (za 23), .ref (za 24), .int 0])), ((za 23), .inl (y 2, 8, .inl (fun _ => 0))), (h1, .inr (11, mF zb (upd xI0 78 0) xJ0))] := hD
  refine lv_icmp_eq (tgt := 958) hx hb dL_law_887 (by decide) (fun c_5 => ?_) (fun c_5 => ?_)
  · exact law_end l C0 hAl hbA hS (lv_sub hl [0, 1, 2, 3] rfl)
  · exact absurd (by decide) c_5
set_option maxHeartbeats 4000000 in
set_option maxRecDepth 100000 in
theorem law_case_21 {D : va_G} {y : Nat → ClassId} {za zb r1 r2 : Nat → Nat} {zw : Nat → Nat → Int32} {ow ub : Nat → Int64} {p : Program} {e : Env} {s : State} {m : MethodId} {below : List Frame} {meth : Method} {c : Code} (l : Launch) {b : Nat} {xs : Nat → Int32} {A : Nat → Prop} {H : Heap} {locs : List Loc} {ls : Array Slot} {h0 h1 : Nat} (C0 : lw_At p s m meth c b 6 xs) (hAl : ∀ q, A q → s.heap.size ≤ q) (hbA : ¬ A b) (hS : va_S A s.heap H locs) (hl : lv_has ls 4 [(3, .int 0), (2, .ref h1), (1, .ref h0), (0, .ref b)]) (hA : ∀ q, s.heap.size ≤ q → A q) (hK : va_K D vwCl (xT y) s) (hP : va_P D vwCl (mW y h1 (zb, zw, ub) ++ xW y h0 (za, r1, r2, ow)) H) (hD : va_D A (mW y h1 (zb, zw, ub) ++ xW y h0 (za, r1, r2, ow))) : W p l e room_1 s m #[Value.ref b] below meth c H locs 135 68060 (lw_Z below #[Value.ref b] s) (F0 m 892 ls []) := by
  obtain ⟨hx, hb, hr, hml, hown, hts, hX, hbl, hlocks, hgv⟩ := id C0
  have hown : s.vm.findClass RL = some m.cls := hown
  have hP : va_P D vwCl ([(h0, .inr (10, [.ref (za 0), .ref (za 2), .ref (za 8), .ref (za 13), .ref (za 16), .ref (za 22), .ref (za 25), .ref (za 28), .ref (za 34), .ref (za 40), .ref (za 47)])), ((za 25), .inr (2, [.ref (za 26), .ref (za 27), .int 0])), ((za 26), .inl (y 5, 11, .inr (.inr (.inr (.inr (xG r1)))))), ((za 27), .inl (y 5, 11, .inr (.inr (.inr (.inr (xG r2)))))), (h1, .inr (11, mF zb xI0 xJ0)), ((zb 83), .inl (y 2, 1111, .inl (fun _ => 0))), ((zb 84), .inl (y 2, 1111, .inl (fun _ => 0)))] ++ (xR y r1 (fun _ _ => 0) ++ xR y r2 (fun _ _ => 0))) H := x_subP hP [58, 85, 86, 87, 0, 2, 1, 88, 89, 90, 91, 92, 93, 94, 95, 96, 97, 98, 99, 100, 101, 102, 103, 104, 105, 106, 107, 108, 109] rfl
  have hD : va_D A ([(h0, .inr (10, [.ref (za 0), .ref (za 2), .ref (za 8), .ref (za 13), .ref (za 16), .ref (za 22), .ref (za 25), .ref (za 28), .ref (za 34), .ref (za 40), .ref (za 47)])), ((za 25), .inr (2, [.ref (za 26), .ref (za 27), .int 0])), ((za 26), .inl (y 5, 11, .inr (.inr (.inr (.inr (xG r1)))))), ((za 27), .inl (y 5, 11, .inr (.inr (.inr (.inr (xG r2)))))), (h1, .inr (11, mF zb xI0 xJ0)), ((zb 83), .inl (y 2, 1111, .inl (fun _ => 0))), ((zb 84), .inl (y 2, 1111, .inl (fun _ => 0)))] ++ (xR y r1 (fun _ _ => 0) ++ xR y r2 (fun _ _ => 0))) := x_subD hD [58, 85, 86, 87, 0, 2, 1, 88, 89, 90, 91, 92, 93, 94, 95, 96, 97, 98, 99, 100, 101, 102, 103, 104, 105, 106, 107, 108, 109] rfl (by decide)
  refine lv_aload_n hx hb dL_law_892 rfl (lv_at hl 2 rfl) ?_
  refine lv_aload_n hx hb dL_law_893 rfl (lv_at hl 3 rfl) ?_
  refine lv_iload_n hx hb dL_law_894 rfl (lv_at hl 0 rfl) ?_
  refine lv_iconst (v := 1) hx hb dL_law_895 (by decide) ?_
  refine lv_iadd hx hb dL_law_896 ?_
  refine lv_topi (fun i_1 ei_1 => ?_)
  obtain rfl : i_1 = 1 := ei_1.trans (by decide)
  refine va_sld hx hb hX hbl hbA hS (x_in (by decide) (by decide)) dL_law_897 ?_
  refine lv_aload_n hx hb dL_law_898 rfl (lv_at hl 3 rfl) ?_
  refine lv_iload_n hx hb dL_law_899 rfl (lv_at hl 0 rfl) ?_
  refine lv_iconst (v := 2) hx hb dL_law_900 (by decide) ?_
  refine lv_iadd hx hb dL_law_901 ?_
  refine lv_topi (fun i_2 ei_2 => ?_)
  obtain rfl : i_2 = 2 := ei_2.trans (by decide)
  refine va_sld hx hb hX hbl hbA hS (x_in (by decide) (by decide)) dL_law_902 ?_
  refine x_calli (w1 := fun (u : Int32 × (Nat → Nat → Int32) × (Nat → Nat → Int32)) => ([(h0, .inr (10, [.ref (za 0), .ref (za 2), .ref (za 8), .ref (za 13), .ref (za 16), .ref (za 22), .ref (za 25), .ref (za 28), .ref (za 34), .ref (za 40), .ref (za 47)])), ((za 25), .inr (2, [.ref (za 26), .ref (za 27), .int u.1])), ((za 26), .inl (y 5, 11, .inr (.inr (.inr (.inr (xG r1)))))), ((za 27), .inl (y 5, 11, .inr (.inr (.inr (.inr (xG r2))))))] ++ (xR y r1 u.2.1 ++ xR y r2 u.2.2))) (wr := [(h1, .inr (11, mF zb xI0 xJ0)), ((zb 83), .inl (y 2, 1111, .inl (fun _ => 0))), ((zb 84), .inl (y 2, 1111, .inl (fun _ => 0)))]) (ws' := fun (u : Int32 × (Nat → Nat → Int32) × (Nat → Nat → Int32)) => ([(h0, .inr (10, [.ref (za 0), .ref (za 2), .ref (za 8), .ref (za 13), .ref (za 16), .ref (za 22), .ref (za 25), .ref (za 28), .ref (za 34), .ref (za 40), .ref (za 47)])), ((za 25), .inr (2, [.ref (za 26), .ref (za 27), .int u.1])), ((za 26), .inl (y 5, 11, .inr (.inr (.inr (.inr (xG r1)))))), ((za 27), .inl (y 5, 11, .inr (.inr (.inr (.inr (xG r2)))))), (h1, .inr (11, mF zb xI0 xJ0)), ((zb 83), .inl (y 2, 1111, .inl (fun _ => 0))), ((zb 84), .inl (y 2, 1111, .inl (fun _ => 0)))] ++ (xR y r1 u.2.1 ++ xR y r2 u.2.2))) (va_runV (As := [.int (xs (Int32.toNatClampNeg 1)), .int (xs (Int32.toNatClampNeg 2))]) (rest := []) ⟨hx, hb, hml, hown, hts⟩ (c_again0 l D y H.size h0 (za 0) (za 2) (za 8) (za 13) (za 16) (za 22) (za 28) (za 34) (za 40) (za 47) (za 25) (za 26) (za 27) r1 r2 (fun _ _ => 0) (fun _ _ => 0) (xs (Int32.toNatClampNeg 1)) (xs (Int32.toNatClampNeg 2)) (fun _ _ _ => rfl)) (cwV 2 hts gl_44 rfl rfl rfl (by decide +kernel) ⟨Nat.le_of_ble_eq_true rfl, Nat.le_of_ble_eq_true rfl⟩) (x_preV (q := (RX11, TX11, 11)) hK (x_subP hP [0, 1, 2, 3, 7, 8, 9, 10, 11, 12, 13, 14, 15, 16, 17, 18, 19, 20, 21, 22, 23, 24, 25, 26, 27, 28] rfl) (x_subD hD [0, 1, 2, 3, 7, 8, 9, 10, 11, 12, 13, 14, 15, 16, 17, 18, 19, 20, 21, 22, 23, 24, 25, 26, 27, 28] rfl (by decide)) (ci := 10) (q0 := 0) rfl rfl) rfl rfl hl.1 rfl (lv_room (Nat.le_of_ble_eq_true rfl)) dL_law_903 ⟨Nat.le_of_ble_eq_true rfl, Nat.le_of_ble_eq_true rfl⟩) hP hD hS hA [0, 1, 2, 3, 7, 8, 9, 10, 11, 12, 13, 14, 15, 16, 17, 18, 19, 20, 21, 22, 23, 24, 25, 26, 27, 28] [4, 5, 6] rfl rfl (by decide) (by decide) [3, 4, 5, 6, 0, 1, 2, 7, 8, 9, 10, 11, 12, 13, 14, 15, 16, 17, 18, 19, 20, 21, 22, 23, 24, 25, 26, 27, 28] (fun _ => rfl) (by decide) (fun r_3 u H locs hw hP hD hS => ?_)
  obtain ⟨i_4, G_5, G_6⟩ := u
  try dsimp only at hw
  have hP : va_P D vwCl ([(h0, .inr (10, [.ref (za 0), .ref (za 2), .ref (za 8), .ref (za 13), .ref (za 16), .ref (za 22), .ref (za 25), .ref (za 28), .ref (za 34), .ref (za 40), .ref (za 47)])), ((za 25), .inr (2, [.ref (za 26), .ref (za 27), .int i_4])), ((za 26), .inl (y 5, 11, .inr (.inr (.inr (.inr (xG r1)))))), ((za 27), .inl (y 5, 11, .inr (.inr (.inr (.inr (xG r2)))))), (h1, .inr (11, mF zb xI0 xJ0)), ((zb 83), .inl (y 2, 1111, .inl (fun _ => 0))), ((zb 84), .inl (y 2, 1111, .inl (fun _ => 0)))] ++ (xR y r1 G_5 ++ xR y r2 G_6)) H := hP
  have hD : va_D A ([(h0, .inr (10, [.ref (za 0), .ref (za 2), .ref (za 8), .ref (za 13), .ref (za 16), .ref (za 22), .ref (za 25), .ref (za 28), .ref (za 34), .ref (za 40), .ref (za 47)])), ((za 25), .inr (2, [.ref (za 26), .ref (za 27), .int i_4])), ((za 26), .inl (y 5, 11, .inr (.inr (.inr (.inr (xG r1)))))), ((za 27), .inl (y 5, 11, .inr (.inr (.inr (.inr (xG r2)))))), (h1, .inr (11, mF zb xI0 xJ0)), ((zb 83), .inl (y 2, 1111, .inl (fun _ => 0))), ((zb 84), .inl (y 2, 1111, .inl (fun _ => 0)))] ++ (xR y r1 G_5 ++ xR y r2 G_6)) := hD
  have hw1 := hw
  refine lv_aload_n hx hb dL_law_906 rfl (lv_at hl 1 rfl) ?_
  refine lv_aload_n hx hb dL_law_907 rfl (lv_at hl 3 rfl) ?_
  refine lv_iload_n hx hb dL_law_908 rfl (lv_at hl 0 rfl) ?_
  refine lv_iconst (v := 1) hx hb dL_law_909 (by decide) ?_
  refine lv_iadd hx hb dL_law_910 ?_
  refine lv_topi (fun i_7 ei_7 => ?_)
  obtain rfl : i_7 = 1 := ei_7.trans (by decide)
  refine va_sld hx hb hX hbl hbA hS (x_in (by decide) (by decide)) dL_law_911 ?_
  refine lv_aload_n hx hb dL_law_912 rfl (lv_at hl 3 rfl) ?_
  refine lv_iload_n hx hb dL_law_913 rfl (lv_at hl 0 rfl) ?_
  refine lv_iconst (v := 2) hx hb dL_law_914 (by decide) ?_
  refine lv_iadd hx hb dL_law_915 ?_
  refine lv_topi (fun i_8 ei_8 => ?_)
  obtain rfl : i_8 = 2 := ei_8.trans (by decide)
  refine va_sld hx hb hX hbl hbA hS (x_in (by decide) (by decide)) dL_law_916 ?_
  refine x_calli (w1 := fun (u : Int32 × (Nat → Int32) × (Nat → Int32)) => [(h1, .inr (11, mF zb (upd xI0 82 u.1) xJ0)), ((zb 83), .inl (y 2, 1111, .inl u.2.1)), ((zb 84), .inl (y 2, 1111, .inl u.2.2))]) (wr := ([(h0, .inr (10, [.ref (za 0), .ref (za 2), .ref (za 8), .ref (za 13), .ref (za 16), .ref (za 22), .ref (za 25), .ref (za 28), .ref (za 34), .ref (za 40), .ref (za 47)])), ((za 25), .inr (2, [.ref (za 26), .ref (za 27), .int i_4])), ((za 26), .inl (y 5, 11, .inr (.inr (.inr (.inr (xG r1)))))), ((za 27), .inl (y 5, 11, .inr (.inr (.inr (.inr (xG r2))))))] ++ (xR y r1 G_5 ++ xR y r2 G_6))) (ws' := fun (u : Int32 × (Nat → Int32) × (Nat → Int32)) => ([(h0, .inr (10, [.ref (za 0), .ref (za 2), .ref (za 8), .ref (za 13), .ref (za 16), .ref (za 22), .ref (za 25), .ref (za 28), .ref (za 34), .ref (za 40), .ref (za 47)])), ((za 25), .inr (2, [.ref (za 26), .ref (za 27), .int i_4])), ((za 26), .inl (y 5, 11, .inr (.inr (.inr (.inr (xG r1)))))), ((za 27), .inl (y 5, 11, .inr (.inr (.inr (.inr (xG r2)))))), (h1, .inr (11, mF zb (upd xI0 82 u.1) xJ0)), ((zb 83), .inl (y 2, 1111, .inl u.2.1)), ((zb 84), .inl (y 2, 1111, .inl u.2.2))] ++ (xR y r1 G_5 ++ xR y r2 G_6))) (va_runV (As := [.int (xs (Int32.toNatClampNeg 1)), .int (xs (Int32.toNatClampNeg 2))]) (rest := [.int r_3]) ⟨hx, hb, hml, hown, hts⟩ (m_again0 l D y H.size h1 zb xI0 xJ0 (fun _ => 0) (fun _ => 0) (xs (Int32.toNatClampNeg 1)) (xs (Int32.toNatClampNeg 2))) (cwV 2 hts gl_45 rfl rfl rfl (by decide +kernel) ⟨Nat.le_of_ble_eq_true rfl, Nat.le_of_ble_eq_true rfl⟩) (x_preV (q := (RX12, TX12, 85)) hK (x_subP hP [4, 5, 6] rfl) (x_subD hD [4, 5, 6] rfl (by decide)) (ci := 11) (q0 := 0) rfl rfl) rfl rfl hl.1 rfl (lv_room (Nat.le_of_ble_eq_true rfl)) dL_law_917 ⟨Nat.le_of_ble_eq_true rfl, Nat.le_of_ble_eq_true rfl⟩) hP hD hS hA [4, 5, 6] [0, 1, 2, 3, 7, 8, 9, 10, 11, 12, 13, 14, 15, 16, 17, 18, 19, 20, 21, 22, 23, 24, 25, 26, 27, 28] rfl rfl (by decide) (by decide) [0, 1, 2, 3, 26, 27, 28, 4, 5, 6, 7, 8, 9, 10, 11, 12, 13, 14, 15, 16, 17, 18, 19, 20, 21, 22, 23, 24, 25] (fun _ => rfl) (by decide) (fun r_9 u H locs hw hP hD hS => ?_)
  obtain ⟨i_10, f_11, f_12⟩ := u
  try dsimp only at hw
  have hP : va_P D vwCl ([(h0, .inr (10, [.ref (za 0), .ref (za 2), .ref (za 8), .ref (za 13), .ref (za 16), .ref (za 22), .ref (za 25), .ref (za 28), .ref (za 34), .ref (za 40), .ref (za 47)])), ((za 25), .inr (2, [.ref (za 26), .ref (za 27), .int i_4])), ((za 26), .inl (y 5, 11, .inr (.inr (.inr (.inr (xG r1)))))), ((za 27), .inl (y 5, 11, .inr (.inr (.inr (.inr (xG r2)))))), (h1, .inr (11, mF zb (upd xI0 82 i_10) xJ0)), ((zb 83), .inl (y 2, 1111, .inl f_11)), ((zb 84), .inl (y 2, 1111, .inl f_12))] ++ (xR y r1 G_5 ++ xR y r2 G_6)) H := hP
  have hD : va_D A ([(h0, .inr (10, [.ref (za 0), .ref (za 2), .ref (za 8), .ref (za 13), .ref (za 16), .ref (za 22), .ref (za 25), .ref (za 28), .ref (za 34), .ref (za 40), .ref (za 47)])), ((za 25), .inr (2, [.ref (za 26), .ref (za 27), .int i_4])), ((za 26), .inl (y 5, 11, .inr (.inr (.inr (.inr (xG r1)))))), ((za 27), .inl (y 5, 11, .inr (.inr (.inr (.inr (xG r2)))))), (h1, .inr (11, mF zb (upd xI0 82 i_10) xJ0)), ((zb 83), .inl (y 2, 1111, .inl f_11)), ((zb 84), .inl (y 2, 1111, .inl f_12))] ++ (xR y r1 G_5 ++ xR y r2 G_6)) := hD
  refine lv_icmp_eq (tgt := 958) hx hb dL_law_920 (by decide) (fun c_13 => ?_) (fun c_13 => ?_)
  · exact law_end l C0 hAl hbA hS (lv_sub hl [0, 1, 2, 3] rfl)
  · exact absurd (hw1.trans hw.symm) c_13
set_option maxHeartbeats 4000000 in
set_option maxRecDepth 100000 in
theorem law_case_22 {D : va_G} {y : Nat → ClassId} {za zb r1 r2 : Nat → Nat} {zw : Nat → Nat → Int32} {ow ub : Nat → Int64} {p : Program} {e : Env} {s : State} {m : MethodId} {below : List Frame} {meth : Method} {c : Code} (l : Launch) {b : Nat} {xs : Nat → Int32} {A : Nat → Prop} {H : Heap} {locs : List Loc} {ls : Array Slot} {h0 h1 : Nat} (C0 : lw_At p s m meth c b 6 xs) (hAl : ∀ q, A q → s.heap.size ≤ q) (hbA : ¬ A b) (hS : va_S A s.heap H locs) (hl : lv_has ls 4 [(3, .int 0), (2, .ref h1), (1, .ref h0), (0, .ref b)]) (hA : ∀ q, s.heap.size ≤ q → A q) (hK : va_K D vwCl (xT y) s) (hP : va_P D vwCl (mW y h1 (zb, zw, ub) ++ xW y h0 (za, r1, r2, ow)) H) (hD : va_D A (mW y h1 (zb, zw, ub) ++ xW y h0 (za, r1, r2, ow))) : W p l e room_1 s m #[Value.ref b] below meth c H locs 135 68060 (lw_Z below #[Value.ref b] s) (F0 m 925 ls []) := by
  obtain ⟨hx, hb, hr, hml, hown, hts, hX, hbl, hlocks, hgv⟩ := id C0
  have hown : s.vm.findClass RL = some m.cls := hown
  have hP : va_P D vwCl ([(h0, .inr (10, [.ref (za 0), .ref (za 2), .ref (za 8), .ref (za 13), .ref (za 16), .ref (za 22), .ref (za 25), .ref (za 28), .ref (za 34), .ref (za 40), .ref (za 47)])), ((za 25), .inr (2, [.ref (za 26), .ref (za 27), .int 0])), ((za 26), .inl (y 5, 11, .inr (.inr (.inr (.inr (xG r1)))))), ((za 27), .inl (y 5, 11, .inr (.inr (.inr (.inr (xG r2)))))), (h1, .inr (11, mF zb xI0 xJ0)), ((zb 83), .inl (y 2, 1111, .inl (fun _ => 0))), ((zb 84), .inl (y 2, 1111, .inl (fun _ => 0)))] ++ (xR y r1 (fun _ _ => 0) ++ xR y r2 (fun _ _ => 0))) H := x_subP hP [58, 85, 86, 87, 0, 2, 1, 88, 89, 90, 91, 92, 93, 94, 95, 96, 97, 98, 99, 100, 101, 102, 103, 104, 105, 106, 107, 108, 109] rfl
  have hD : va_D A ([(h0, .inr (10, [.ref (za 0), .ref (za 2), .ref (za 8), .ref (za 13), .ref (za 16), .ref (za 22), .ref (za 25), .ref (za 28), .ref (za 34), .ref (za 40), .ref (za 47)])), ((za 25), .inr (2, [.ref (za 26), .ref (za 27), .int 0])), ((za 26), .inl (y 5, 11, .inr (.inr (.inr (.inr (xG r1)))))), ((za 27), .inl (y 5, 11, .inr (.inr (.inr (.inr (xG r2)))))), (h1, .inr (11, mF zb xI0 xJ0)), ((zb 83), .inl (y 2, 1111, .inl (fun _ => 0))), ((zb 84), .inl (y 2, 1111, .inl (fun _ => 0)))] ++ (xR y r1 (fun _ _ => 0) ++ xR y r2 (fun _ _ => 0))) := x_subD hD [58, 85, 86, 87, 0, 2, 1, 88, 89, 90, 91, 92, 93, 94, 95, 96, 97, 98, 99, 100, 101, 102, 103, 104, 105, 106, 107, 108, 109] rfl (by decide)
  refine lv_aload_n hx hb dL_law_925 rfl (lv_at hl 2 rfl) ?_
  refine lv_aload_n hx hb dL_law_926 rfl (lv_at hl 3 rfl) ?_
  refine lv_iload_n hx hb dL_law_927 rfl (lv_at hl 0 rfl) ?_
  refine lv_iconst (v := 1) hx hb dL_law_928 (by decide) ?_
  refine lv_iadd hx hb dL_law_929 ?_
  refine lv_topi (fun i_1 ei_1 => ?_)
  obtain rfl : i_1 = 1 := ei_1.trans (by decide)
  refine va_sld hx hb hX hbl hbA hS (x_in (by decide) (by decide)) dL_law_930 ?_
  refine lv_aload_n hx hb dL_law_931 rfl (lv_at hl 3 rfl) ?_
  refine lv_iload_n hx hb dL_law_932 rfl (lv_at hl 0 rfl) ?_
  refine lv_iconst (v := 2) hx hb dL_law_933 (by decide) ?_
  refine lv_iadd hx hb dL_law_934 ?_
  refine lv_topi (fun i_2 ei_2 => ?_)
  obtain rfl : i_2 = 2 := ei_2.trans (by decide)
  refine va_sld hx hb hX hbl hbA hS (x_in (by decide) (by decide)) dL_law_935 ?_
  refine x_calli (w1 := fun (u : Int32 × (Nat → Nat → Int32) × (Nat → Nat → Int32)) => ([(h0, .inr (10, [.ref (za 0), .ref (za 2), .ref (za 8), .ref (za 13), .ref (za 16), .ref (za 22), .ref (za 25), .ref (za 28), .ref (za 34), .ref (za 40), .ref (za 47)])), ((za 25), .inr (2, [.ref (za 26), .ref (za 27), .int u.1])), ((za 26), .inl (y 5, 11, .inr (.inr (.inr (.inr (xG r1)))))), ((za 27), .inl (y 5, 11, .inr (.inr (.inr (.inr (xG r2))))))] ++ (xR y r1 u.2.1 ++ xR y r2 u.2.2))) (wr := [(h1, .inr (11, mF zb xI0 xJ0)), ((zb 83), .inl (y 2, 1111, .inl (fun _ => 0))), ((zb 84), .inl (y 2, 1111, .inl (fun _ => 0)))]) (ws' := fun (u : Int32 × (Nat → Nat → Int32) × (Nat → Nat → Int32)) => ([(h0, .inr (10, [.ref (za 0), .ref (za 2), .ref (za 8), .ref (za 13), .ref (za 16), .ref (za 22), .ref (za 25), .ref (za 28), .ref (za 34), .ref (za 40), .ref (za 47)])), ((za 25), .inr (2, [.ref (za 26), .ref (za 27), .int u.1])), ((za 26), .inl (y 5, 11, .inr (.inr (.inr (.inr (xG r1)))))), ((za 27), .inl (y 5, 11, .inr (.inr (.inr (.inr (xG r2)))))), (h1, .inr (11, mF zb xI0 xJ0)), ((zb 83), .inl (y 2, 1111, .inl (fun _ => 0))), ((zb 84), .inl (y 2, 1111, .inl (fun _ => 0)))] ++ (xR y r1 u.2.1 ++ xR y r2 u.2.2))) (va_runV (As := [.int (xs (Int32.toNatClampNeg 1)), .int (xs (Int32.toNatClampNeg 2))]) (rest := []) ⟨hx, hb, hml, hown, hts⟩ (c_first0 l D y H.size h0 (za 0) (za 2) (za 8) (za 13) (za 16) (za 22) (za 28) (za 34) (za 40) (za 47) (za 25) (za 26) (za 27) r1 r2 (fun _ _ => 0) (fun _ _ => 0) (xs (Int32.toNatClampNeg 1)) (xs (Int32.toNatClampNeg 2)) (fun _ _ _ => rfl)) (cwV 2 hts gl_46 rfl rfl rfl (by decide +kernel) ⟨Nat.le_of_ble_eq_true rfl, Nat.le_of_ble_eq_true rfl⟩) (x_preV (q := (RX11, TX11, 11)) hK (x_subP hP [0, 1, 2, 3, 7, 8, 9, 10, 11, 12, 13, 14, 15, 16, 17, 18, 19, 20, 21, 22, 23, 24, 25, 26, 27, 28] rfl) (x_subD hD [0, 1, 2, 3, 7, 8, 9, 10, 11, 12, 13, 14, 15, 16, 17, 18, 19, 20, 21, 22, 23, 24, 25, 26, 27, 28] rfl (by decide)) (ci := 10) (q0 := 0) rfl rfl) rfl rfl hl.1 rfl (lv_room (Nat.le_of_ble_eq_true rfl)) dL_law_936 ⟨Nat.le_of_ble_eq_true rfl, Nat.le_of_ble_eq_true rfl⟩) hP hD hS hA [0, 1, 2, 3, 7, 8, 9, 10, 11, 12, 13, 14, 15, 16, 17, 18, 19, 20, 21, 22, 23, 24, 25, 26, 27, 28] [4, 5, 6] rfl rfl (by decide) (by decide) [3, 4, 5, 6, 0, 1, 2, 7, 8, 9, 10, 11, 12, 13, 14, 15, 16, 17, 18, 19, 20, 21, 22, 23, 24, 25, 26, 27, 28] (fun _ => rfl) (by decide) (fun r_3 u H locs hw hP hD hS => ?_)
  obtain ⟨i_4, G_5, G_6⟩ := u
  try dsimp only at hw
  have hP : va_P D vwCl ([(h0, .inr (10, [.ref (za 0), .ref (za 2), .ref (za 8), .ref (za 13), .ref (za 16), .ref (za 22), .ref (za 25), .ref (za 28), .ref (za 34), .ref (za 40), .ref (za 47)])), ((za 25), .inr (2, [.ref (za 26), .ref (za 27), .int i_4])), ((za 26), .inl (y 5, 11, .inr (.inr (.inr (.inr (xG r1)))))), ((za 27), .inl (y 5, 11, .inr (.inr (.inr (.inr (xG r2)))))), (h1, .inr (11, mF zb xI0 xJ0)), ((zb 83), .inl (y 2, 1111, .inl (fun _ => 0))), ((zb 84), .inl (y 2, 1111, .inl (fun _ => 0)))] ++ (xR y r1 G_5 ++ xR y r2 G_6)) H := hP
  have hD : va_D A ([(h0, .inr (10, [.ref (za 0), .ref (za 2), .ref (za 8), .ref (za 13), .ref (za 16), .ref (za 22), .ref (za 25), .ref (za 28), .ref (za 34), .ref (za 40), .ref (za 47)])), ((za 25), .inr (2, [.ref (za 26), .ref (za 27), .int i_4])), ((za 26), .inl (y 5, 11, .inr (.inr (.inr (.inr (xG r1)))))), ((za 27), .inl (y 5, 11, .inr (.inr (.inr (.inr (xG r2)))))), (h1, .inr (11, mF zb xI0 xJ0)), ((zb 83), .inl (y 2, 1111, .inl (fun _ => 0))), ((zb 84), .inl (y 2, 1111, .inl (fun _ => 0)))] ++ (xR y r1 G_5 ++ xR y r2 G_6)) := hD
  have hw1 := hw
  refine lv_aload_n hx hb dL_law_939 rfl (lv_at hl 1 rfl) ?_
  refine lv_aload_n hx hb dL_law_940 rfl (lv_at hl 3 rfl) ?_
  refine lv_iload_n hx hb dL_law_941 rfl (lv_at hl 0 rfl) ?_
  refine lv_iconst (v := 1) hx hb dL_law_942 (by decide) ?_
  refine lv_iadd hx hb dL_law_943 ?_
  refine lv_topi (fun i_7 ei_7 => ?_)
  obtain rfl : i_7 = 1 := ei_7.trans (by decide)
  refine va_sld hx hb hX hbl hbA hS (x_in (by decide) (by decide)) dL_law_944 ?_
  refine lv_aload_n hx hb dL_law_945 rfl (lv_at hl 3 rfl) ?_
  refine lv_iload_n hx hb dL_law_946 rfl (lv_at hl 0 rfl) ?_
  refine lv_iconst (v := 2) hx hb dL_law_947 (by decide) ?_
  refine lv_iadd hx hb dL_law_948 ?_
  refine lv_topi (fun i_8 ei_8 => ?_)
  obtain rfl : i_8 = 2 := ei_8.trans (by decide)
  refine va_sld hx hb hX hbl hbA hS (x_in (by decide) (by decide)) dL_law_949 ?_
  refine x_calli (w1 := fun (u : Int32 × (Nat → Int32) × (Nat → Int32)) => [(h1, .inr (11, mF zb (upd xI0 82 u.1) xJ0)), ((zb 83), .inl (y 2, 1111, .inl u.2.1)), ((zb 84), .inl (y 2, 1111, .inl u.2.2))]) (wr := ([(h0, .inr (10, [.ref (za 0), .ref (za 2), .ref (za 8), .ref (za 13), .ref (za 16), .ref (za 22), .ref (za 25), .ref (za 28), .ref (za 34), .ref (za 40), .ref (za 47)])), ((za 25), .inr (2, [.ref (za 26), .ref (za 27), .int i_4])), ((za 26), .inl (y 5, 11, .inr (.inr (.inr (.inr (xG r1)))))), ((za 27), .inl (y 5, 11, .inr (.inr (.inr (.inr (xG r2))))))] ++ (xR y r1 G_5 ++ xR y r2 G_6))) (ws' := fun (u : Int32 × (Nat → Int32) × (Nat → Int32)) => ([(h0, .inr (10, [.ref (za 0), .ref (za 2), .ref (za 8), .ref (za 13), .ref (za 16), .ref (za 22), .ref (za 25), .ref (za 28), .ref (za 34), .ref (za 40), .ref (za 47)])), ((za 25), .inr (2, [.ref (za 26), .ref (za 27), .int i_4])), ((za 26), .inl (y 5, 11, .inr (.inr (.inr (.inr (xG r1)))))), ((za 27), .inl (y 5, 11, .inr (.inr (.inr (.inr (xG r2)))))), (h1, .inr (11, mF zb (upd xI0 82 u.1) xJ0)), ((zb 83), .inl (y 2, 1111, .inl u.2.1)), ((zb 84), .inl (y 2, 1111, .inl u.2.2))] ++ (xR y r1 G_5 ++ xR y r2 G_6))) (va_runV (As := [.int (xs (Int32.toNatClampNeg 1)), .int (xs (Int32.toNatClampNeg 2))]) (rest := [.int r_3]) ⟨hx, hb, hml, hown, hts⟩ (m_first0 l D y H.size h1 zb xI0 xJ0 (fun _ => 0) (fun _ => 0) (xs (Int32.toNatClampNeg 1)) (xs (Int32.toNatClampNeg 2))) (cwV 2 hts gl_47 rfl rfl rfl (by decide +kernel) ⟨Nat.le_of_ble_eq_true rfl, Nat.le_of_ble_eq_true rfl⟩) (x_preV (q := (RX12, TX12, 85)) hK (x_subP hP [4, 5, 6] rfl) (x_subD hD [4, 5, 6] rfl (by decide)) (ci := 11) (q0 := 0) rfl rfl) rfl rfl hl.1 rfl (lv_room (Nat.le_of_ble_eq_true rfl)) dL_law_950 ⟨Nat.le_of_ble_eq_true rfl, Nat.le_of_ble_eq_true rfl⟩) hP hD hS hA [4, 5, 6] [0, 1, 2, 3, 7, 8, 9, 10, 11, 12, 13, 14, 15, 16, 17, 18, 19, 20, 21, 22, 23, 24, 25, 26, 27, 28] rfl rfl (by decide) (by decide) [0, 1, 2, 3, 26, 27, 28, 4, 5, 6, 7, 8, 9, 10, 11, 12, 13, 14, 15, 16, 17, 18, 19, 20, 21, 22, 23, 24, 25] (fun _ => rfl) (by decide) (fun r_9 u H locs hw hP hD hS => ?_)
  obtain ⟨i_10, f_11, f_12⟩ := u
  try dsimp only at hw
  have hP : va_P D vwCl ([(h0, .inr (10, [.ref (za 0), .ref (za 2), .ref (za 8), .ref (za 13), .ref (za 16), .ref (za 22), .ref (za 25), .ref (za 28), .ref (za 34), .ref (za 40), .ref (za 47)])), ((za 25), .inr (2, [.ref (za 26), .ref (za 27), .int i_4])), ((za 26), .inl (y 5, 11, .inr (.inr (.inr (.inr (xG r1)))))), ((za 27), .inl (y 5, 11, .inr (.inr (.inr (.inr (xG r2)))))), (h1, .inr (11, mF zb (upd xI0 82 i_10) xJ0)), ((zb 83), .inl (y 2, 1111, .inl f_11)), ((zb 84), .inl (y 2, 1111, .inl f_12))] ++ (xR y r1 G_5 ++ xR y r2 G_6)) H := hP
  have hD : va_D A ([(h0, .inr (10, [.ref (za 0), .ref (za 2), .ref (za 8), .ref (za 13), .ref (za 16), .ref (za 22), .ref (za 25), .ref (za 28), .ref (za 34), .ref (za 40), .ref (za 47)])), ((za 25), .inr (2, [.ref (za 26), .ref (za 27), .int i_4])), ((za 26), .inl (y 5, 11, .inr (.inr (.inr (.inr (xG r1)))))), ((za 27), .inl (y 5, 11, .inr (.inr (.inr (.inr (xG r2)))))), (h1, .inr (11, mF zb (upd xI0 82 i_10) xJ0)), ((zb 83), .inl (y 2, 1111, .inl f_11)), ((zb 84), .inl (y 2, 1111, .inl f_12))] ++ (xR y r1 G_5 ++ xR y r2 G_6)) := hD
  refine lv_icmp_eq (tgt := 958) hx hb dL_law_953 (by decide) (fun c_13 => ?_) (fun c_13 => ?_)
  · exact law_end l C0 hAl hbA hS (lv_sub hl [0, 1, 2, 3] rfl)
  · exact absurd (hw1.trans hw.symm) c_13
