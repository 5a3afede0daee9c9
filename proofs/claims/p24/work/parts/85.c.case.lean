set_option maxHeartbeats 4000000 in
set_option maxRecDepth 100000 in
theorem law_case_16 {D : va_G} {y : Nat → ClassId} {p : Program} {e : Env} {s : State} {m : MethodId} {below : List Frame} {meth : Method} {c : Code} (l : Launch) {b L : Nat} {xs : Nat → Int32} {A : Nat → Prop} {H : Heap} {locs : List Loc} {ls : Array Slot} {h0 h1 : Nat} {t : Int} {X Y : va_W} {i : Int32} (C0 : lw_At p s m meth c b L xs) (hL : L ≤ 3072) (hAl : ∀ q, A q → s.heap.size ≤ q) (hbA : ¬ A b) (hA : ∀ q, s.heap.size ≤ q → A q) (hK : va_K D vwCl (xT y) s) (hi0 : 0 ≤ i.toInt) (hi1 : i.toInt + 6 ≤ (L : Int)) (hCX : CX y h0 t X) (hRX : RX y h1 t Y) (hP : va_P D vwCl (X ++ Y) H) (hD : va_D A (X ++ Y)) (hS : va_S A s.heap H locs) (hl : lv_has ls 4 [(3, .int i), (2, .ref h1), (1, .ref h0), (0, .ref b)]) (kk : ∀ (t : Int) (X Y : va_W) (H : Heap) (locs : List Loc) (ls : Array Slot), CX y h0 t X → RX y h1 t Y → va_P D vwCl (X ++ Y) H → va_D A (X ++ Y) → va_S A s.heap H locs → lv_has ls 4 [(3, .int i), (2, .ref h1), (1, .ref h0), (0, .ref b)] → W p l e room_1 s m #[Value.ref b] below meth c H locs 135 68060 (lw_Z below #[Value.ref b] s) (F0 m 951 ls [])) : W p l e room_1 s m #[Value.ref b] below meth c H locs 135 68060 (lw_Z below #[Value.ref b] s) (F0 m 714 ls []) := by
  obtain ⟨hx, hb, hr, hml, hown, hts, hX, hbl, hlocks, hgv⟩ := id C0
  have hown : s.vm.findClass RL = some m.cls := hown
  obtain ⟨ad, iv, pv, tv, o1, o2, r1, r2, fi, F1, F2, τ, rfl, rfl, hXI, hKI, hC22⟩ := hCX
  obtain ⟨am, zw, σ, rfl, rfl, hRI, hAT, hR1⟩ := hRX
  obtain ⟨ht, hd, hg, hPG, hop, hB49, hB62, hB63, hB25, hB64, hB65, hB26, hB35, hB80, hB50, hB51, hB52, hB53, hB45, hB46, hB55, hB56, hB57, hB58, hB75, hB76⟩ := id hRI
  refine lv_aload_n hx hb dL_law_714 rfl (lv_at hl 2 rfl) ?_
  refine lv_aload_n hx hb dL_law_715 rfl (lv_at hl 3 rfl) ?_
  refine lv_iload_n hx hb dL_law_716 rfl (lv_at hl 0 rfl) ?_
  refine lv_iconst (v := 1) hx hb dL_law_717 (by decide) ?_
  refine lv_iadd hx hb dL_law_718 ?_
  refine va_sld hx hb hX hbl hbA hS (x_ix (i := i) (k := 1) hi0 hi1 hL (by decide) (by decide)) dL_law_719 ?_
  refine lv_aload_n hx hb dL_law_720 rfl (lv_at hl 3 rfl) ?_
  refine lv_iload_n hx hb dL_law_721 rfl (lv_at hl 0 rfl) ?_
  refine lv_iconst (v := 2) hx hb dL_law_722 (by decide) ?_
  refine lv_iadd hx hb dL_law_723 ?_
  refine va_sld hx hb hX hbl hbA hS (x_ix (i := i) (k := 2) hi0 hi1 hL (by decide) (by decide)) dL_law_724 ?_
  refine lv_aload_n hx hb dL_law_725 rfl (lv_at hl 3 rfl) ?_
  refine lv_iload_n hx hb dL_law_726 rfl (lv_at hl 0 rfl) ?_
  refine lv_iconst (v := 3) hx hb dL_law_727 (by decide) ?_
  refine lv_iadd hx hb dL_law_728 ?_
  refine va_sld hx hb hX hbl hbA hS (x_ix (i := i) (k := 3) hi0 hi1 hL (by decide) (by decide)) dL_law_729 ?_
  refine lv_aload_n hx hb dL_law_730 rfl (lv_at hl 3 rfl) ?_
  refine lv_iload_n hx hb dL_law_731 rfl (lv_at hl 0 rfl) ?_
  refine lv_iconst (v := 4) hx hb dL_law_732 (by decide) ?_
  refine lv_iadd hx hb dL_law_733 ?_
  refine va_sld hx hb hX hbl hbA hS (x_ix (i := i) (k := 4) hi0 hi1 hL (by decide) (by decide)) dL_law_734 ?_
  refine lv_aload_n hx hb dL_law_735 rfl (lv_at hl 3 rfl) ?_
  refine lv_iload_n hx hb dL_law_736 rfl (lv_at hl 0 rfl) ?_
  refine lv_iconst (v := 5) hx hb dL_law_737 (by decide) ?_
  refine lv_iadd hx hb dL_law_738 ?_
  refine va_sld hx hb hX hbl hbA hS (x_ix (i := i) (k := 5) hi0 hi1 hL (by decide) (by decide)) dL_law_739 ?_
  suffices go : ∀ r9 : Int32, W p l e room_1 s m #[Value.ref b] below meth c H locs 135 68060 (lw_Z below #[Value.ref b] s) (F0 m 748 ls [.int r9, .int (xs (Int32.toNatClampNeg (i + 4))), .int (xs (Int32.toNatClampNeg (i + 3))), .int (xs (Int32.toNatClampNeg (i + 2))), .int (xs (Int32.toNatClampNeg (i + 1))), .ref (ad 0)]) by
    refine lv_if_eq (tgt := 747) hx hb dL_law_740 (by decide) (fun c9 => ?_) (fun c9 => ?_)
    · refine lv_iconst (v := 0) hx hb dL_law_747 (by decide) ?_
      exact go 0
    · refine lv_iconst (v := 1) hx hb dL_law_743 (by decide) ?_
      refine lv_goto (tgt := 748) hx hb dL_law_744 (by decide) ?_
      exact go 1
  intro b740
  refine x_calllA (X := (xwd y ad iv pv tv (KL y (ad 190) o1 o2 r1 r2 fi F1 F2) τ)) (pl := mwd y am zw σ) (w1 := fun (u : OS × Value × Value) => xwd y ad iv u.2.1 u.2.2 (KL y (ad 190) o1 o2 r1 r2 fi F1 F2) u.1) (va_runV (As := [.int (xs (Int32.toNatClampNeg (i + 1))), .int (xs (Int32.toNatClampNeg (i + 2))), .int (xs (Int32.toNatClampNeg (i + 3))), .int (xs (Int32.toNatClampNeg (i + 4))), .int b740]) (rest := []) ⟨hx, hb, hml, hown, hts⟩ (x_m_difference l D y H.size ad iv pv tv (KL y (ad 190) o1 o2 r1 r2 fi F1 F2) τ (xs (Int32.toNatClampNeg (i + 1))) (xs (Int32.toNatClampNeg (i + 2))) (xs (Int32.toNatClampNeg (i + 3))) (xs (Int32.toNatClampNeg (i + 4))) b740 hXI) (cwV 5 hts gl_32 rfl rfl rfl (by decide +kernel) ⟨Nat.le_of_ble_eq_true rfl, Nat.le_of_ble_eq_true rfl⟩) (x_preV (q := (RX11, TX11, 11)) hK (x_lP hP) (x_lD hD) (ci := 10) (q0 := 0) rfl rfl) rfl rfl hl.1 rfl (lv_room (Nat.le_of_ble_eq_true rfl)) dL_law_748 ⟨Nat.le_of_ble_eq_true rfl, Nat.le_of_ble_eq_true rfl⟩) hP hD hS hA (fun z1 u1 H locs hw1 hP hD hS => ?_)
  have hCX2 : CX y (ad 0) t (xwd y ad iv u1.2.1 u1.2.2 (KL y (ad 190) o1 o2 r1 r2 fi F1 F2) u1.1) := ⟨ad, iv, u1.2.1, u1.2.2, o1, o2, r1, r2, fi, F1, F2, u1.1, rfl, rfl, hw1.1, hKI, (congrArg Int32.toInt hw1.2).trans hC22⟩
  refine lv_pop2_2 hx hb dL_law_751 rfl ?_
  refine lv_aload_n hx hb dL_law_752 rfl (lv_at hl 1 rfl) ?_
  refine lv_aload_n hx hb dL_law_753 rfl (lv_at hl 3 rfl) ?_
  refine lv_iload_n hx hb dL_law_754 rfl (lv_at hl 0 rfl) ?_
  refine lv_iconst (v := 1) hx hb dL_law_755 (by decide) ?_
  refine lv_iadd hx hb dL_law_756 ?_
  refine va_sld hx hb hX hbl hbA hS (x_ix (i := i) (k := 1) hi0 hi1 hL (by decide) (by decide)) dL_law_757 ?_
  refine lv_aload_n hx hb dL_law_758 rfl (lv_at hl 3 rfl) ?_
  refine lv_iload_n hx hb dL_law_759 rfl (lv_at hl 0 rfl) ?_
  refine lv_iconst (v := 2) hx hb dL_law_760 (by decide) ?_
  refine lv_iadd hx hb dL_law_761 ?_
  refine va_sld hx hb hX hbl hbA hS (x_ix (i := i) (k := 2) hi0 hi1 hL (by decide) (by decide)) dL_law_762 ?_
  refine lv_aload_n hx hb dL_law_763 rfl (lv_at hl 3 rfl) ?_
  refine lv_iload_n hx hb dL_law_764 rfl (lv_at hl 0 rfl) ?_
  refine lv_iconst (v := 3) hx hb dL_law_765 (by decide) ?_
  refine lv_iadd hx hb dL_law_766 ?_
  refine va_sld hx hb hX hbl hbA hS (x_ix (i := i) (k := 3) hi0 hi1 hL (by decide) (by decide)) dL_law_767 ?_
  refine lv_aload_n hx hb dL_law_768 rfl (lv_at hl 3 rfl) ?_
  refine lv_iload_n hx hb dL_law_769 rfl (lv_at hl 0 rfl) ?_
  refine lv_iconst (v := 4) hx hb dL_law_770 (by decide) ?_
  refine lv_iadd hx hb dL_law_771 ?_
  refine va_sld hx hb hX hbl hbA hS (x_ix (i := i) (k := 4) hi0 hi1 hL (by decide) (by decide)) dL_law_772 ?_
  refine lv_aload_n hx hb dL_law_773 rfl (lv_at hl 3 rfl) ?_
  refine lv_iload_n hx hb dL_law_774 rfl (lv_at hl 0 rfl) ?_
  refine lv_iconst (v := 5) hx hb dL_law_775 (by decide) ?_
  refine lv_iadd hx hb dL_law_776 ?_
  refine va_sld hx hb hX hbl hbA hS (x_ix (i := i) (k := 5) hi0 hi1 hL (by decide) (by decide)) dL_law_777 ?_
  suffices go : ∀ r9 : Int32, W p l e room_1 s m #[Value.ref b] below meth c H locs 135 68060 (lw_Z below #[Value.ref b] s) (F0 m 786 ls [.int r9, .int (xs (Int32.toNatClampNeg (i + 4))), .int (xs (Int32.toNatClampNeg (i + 3))), .int (xs (Int32.toNatClampNeg (i + 2))), .int (xs (Int32.toNatClampNeg (i + 1))), .ref (am 1)]) by
    refine lv_if_eq (tgt := 785) hx hb dL_law_778 (by decide) (fun c9 => ?_) (fun c9 => ?_)
    · refine lv_iconst (v := 0) hx hb dL_law_785 (by decide) ?_
      exact go 0
    · refine lv_iconst (v := 1) hx hb dL_law_781 (by decide) ?_
      refine lv_goto (tgt := 786) hx hb dL_law_782 (by decide) ?_
      exact go 1
  intro b778
  obtain ⟨_, _, _, _, nn, tt, g1, g2, g3⟩ := id hPG
  refine x_calllB (X := mwd y am zw σ) (pl := (xwd y ad iv u1.2.1 u1.2.2 (KL y (ad 190) o1 o2 r1 r2 fi F1 F2) u1.1)) (w1 := fun (u : Int32 × (Nat → Int32) × (Nat → Int32) × (Nat → Int32) × (Nat → Int32) × Int32 × Int64 × Int64 × Int32 × Int64 × Int64 × (Nat → Int64) × (Nat → Int64) × (Nat → Int32) × (Nat → Int32) × (Nat → Int32) × (Nat → Int32) × (Nat → Int32) × (Nat → Int32) × (Nat → Int32) × (Nat → Int64) × (Nat → Int64)) => mwd y am zw (tJ (tJ (tI (tI (tI (tI (tI (tI (tI (tJ (tJ (sJ (sJ (sI (sJ (sJ (sI (tI (tI (tI (tI (sI σ 73 u.1) 72 u.2.1) 63 u.2.2.1) 67 u.2.2.2.1) 66 u.2.2.2.2.1) 44 u.2.2.2.2.2.1) 42 u.2.2.2.2.2.2.1) 43 u.2.2.2.2.2.2.2.1) 68 u.2.2.2.2.2.2.2.2.1) 69 u.2.2.2.2.2.2.2.2.2.1) 70 u.2.2.2.2.2.2.2.2.2.2.1) 57 u.2.2.2.2.2.2.2.2.2.2.2.1) 58 u.2.2.2.2.2.2.2.2.2.2.2.2.1) 59 u.2.2.2.2.2.2.2.2.2.2.2.2.2.1) 60 u.2.2.2.2.2.2.2.2.2.2.2.2.2.2.1) 61 u.2.2.2.2.2.2.2.2.2.2.2.2.2.2.2.1) 62 u.2.2.2.2.2.2.2.2.2.2.2.2.2.2.2.2.1) 71 u.2.2.2.2.2.2.2.2.2.2.2.2.2.2.2.2.2.1) 64 u.2.2.2.2.2.2.2.2.2.2.2.2.2.2.2.2.2.2.1) 65 u.2.2.2.2.2.2.2.2.2.2.2.2.2.2.2.2.2.2.2.1) 55 u.2.2.2.2.2.2.2.2.2.2.2.2.2.2.2.2.2.2.2.2.1) 56 u.2.2.2.2.2.2.2.2.2.2.2.2.2.2.2.2.2.2.2.2.2)) (va_runV (As := [.int (xs (Int32.toNatClampNeg (i + 1))), .int (xs (Int32.toNatClampNeg (i + 2))), .int (xs (Int32.toNatClampNeg (i + 3))), .int (xs (Int32.toNatClampNeg (i + 4))), .int b778]) (rest := []) ⟨hx, hb, hml, hown, hts⟩ (q_difference l D y H.size am zw σ (xs (Int32.toNatClampNeg (i + 1))) (xs (Int32.toNatClampNeg (i + 2))) (xs (Int32.toNatClampNeg (i + 3))) (xs (Int32.toNatClampNeg (i + 4))) b778 ⟨hPG.1, hPG.2.1⟩ ⟨hPG.2.2.1, hPG.2.2.2.1⟩ nn tt g1 g2 g3 hop hB57 hB58 hB62 hB63 hB25 hB64 hB65 hB26 hB55 hB56) (cwV 5 hts gl_33 rfl rfl rfl (by decide +kernel) ⟨Nat.le_of_ble_eq_true rfl, Nat.le_of_ble_eq_true rfl⟩) (x_preV (q := (RX12, TX12, 85)) hK (x_rP hP) (x_rD hD) (ci := 11) (q0 := 0) rfl rfl) rfl rfl hl.1 rfl (lv_room (Nat.le_of_ble_eq_true rfl)) dL_law_786 ⟨Nat.le_of_ble_eq_true rfl, Nat.le_of_ble_eq_true rfl⟩) hP hD hS hA (fun z2 u2 H locs hw2 hP hD hS => ?_)
  obtain ⟨k0, k1, k2, k3, k4, k5, k6, k7, k8⟩ := hw2
  have hRI2 : RI (tJ (tJ (tI (tI (tI (tI (tI (tI (tI (tJ (tJ (sJ (sJ (sI (sJ (sJ (sI (tI (tI (tI (tI (sI σ 73 u2.1) 72 u2.2.1) 63 u2.2.2.1) 67 u2.2.2.2.1) 66 u2.2.2.2.2.1) 44 u2.2.2.2.2.2.1) 42 u2.2.2.2.2.2.2.1) 43 u2.2.2.2.2.2.2.2.1) 68 u2.2.2.2.2.2.2.2.2.1) 69 u2.2.2.2.2.2.2.2.2.2.1) 70 u2.2.2.2.2.2.2.2.2.2.2.1) 57 u2.2.2.2.2.2.2.2.2.2.2.2.1) 58 u2.2.2.2.2.2.2.2.2.2.2.2.2.1) 59 u2.2.2.2.2.2.2.2.2.2.2.2.2.2.1) 60 u2.2.2.2.2.2.2.2.2.2.2.2.2.2.2.1) 61 u2.2.2.2.2.2.2.2.2.2.2.2.2.2.2.2.1) 62 u2.2.2.2.2.2.2.2.2.2.2.2.2.2.2.2.2.1) 71 u2.2.2.2.2.2.2.2.2.2.2.2.2.2.2.2.2.2.1) 64 u2.2.2.2.2.2.2.2.2.2.2.2.2.2.2.2.2.2.2.1) 65 u2.2.2.2.2.2.2.2.2.2.2.2.2.2.2.2.2.2.2.2.1) 55 u2.2.2.2.2.2.2.2.2.2.2.2.2.2.2.2.2.2.2.2.2.1) 56 u2.2.2.2.2.2.2.2.2.2.2.2.2.2.2.2.2.2.2.2.2.2) := ⟨ht, hd, hg, hPG, k0, hB49, k3, k4, hB25, k5, k6, hB26, hB35, hB80, hB50, hB51, hB52, hB53, hB45, hB46, k7, k8, k1, k2, hB75, hB76⟩
  have hRX2 : RX y (am 1) t (mwd y am zw (tJ (tJ (tI (tI (tI (tI (tI (tI (tI (tJ (tJ (sJ (sJ (sI (sJ (sJ (sI (tI (tI (tI (tI (sI σ 73 u2.1) 72 u2.2.1) 63 u2.2.2.1) 67 u2.2.2.2.1) 66 u2.2.2.2.2.1) 44 u2.2.2.2.2.2.1) 42 u2.2.2.2.2.2.2.1) 43 u2.2.2.2.2.2.2.2.1) 68 u2.2.2.2.2.2.2.2.2.1) 69 u2.2.2.2.2.2.2.2.2.2.1) 70 u2.2.2.2.2.2.2.2.2.2.2.1) 57 u2.2.2.2.2.2.2.2.2.2.2.2.1) 58 u2.2.2.2.2.2.2.2.2.2.2.2.2.1) 59 u2.2.2.2.2.2.2.2.2.2.2.2.2.2.1) 60 u2.2.2.2.2.2.2.2.2.2.2.2.2.2.2.1) 61 u2.2.2.2.2.2.2.2.2.2.2.2.2.2.2.2.1) 62 u2.2.2.2.2.2.2.2.2.2.2.2.2.2.2.2.2.1) 71 u2.2.2.2.2.2.2.2.2.2.2.2.2.2.2.2.2.2.1) 64 u2.2.2.2.2.2.2.2.2.2.2.2.2.2.2.2.2.2.2.1) 65 u2.2.2.2.2.2.2.2.2.2.2.2.2.2.2.2.2.2.2.2.1) 55 u2.2.2.2.2.2.2.2.2.2.2.2.2.2.2.2.2.2.2.2.2.1) 56 u2.2.2.2.2.2.2.2.2.2.2.2.2.2.2.2.2.2.2.2.2.2)) := ⟨am, zw, _, rfl, rfl, hRI2, hAT, hR1⟩
  refine lv_pop2_2 hx hb dL_law_789 rfl ?_
  refine lv_goto (tgt := 951) hx hb dL_law_790 (by decide) ?_
  exact kk _ _ _ _ _ _ hCX2 hRX2 hP hD hS hl
set_option maxHeartbeats 4000000 in
set_option maxRecDepth 100000 in
theorem law_case_17 {D : va_G} {y : Nat → ClassId} {p : Program} {e : Env} {s : State} {m : MethodId} {below : List Frame} {meth : Method} {c : Code} (l : Launch) {b L : Nat} {xs : Nat → Int32} {A : Nat → Prop} {H : Heap} {locs : List Loc} {ls : Array Slot} {h0 h1 : Nat} {t : Int} {X Y : va_W} {i : Int32} (C0 : lw_At p s m meth c b L xs) (hL : L ≤ 3072) (hAl : ∀ q, A q → s.heap.size ≤ q) (hbA : ¬ A b) (hA : ∀ q, s.heap.size ≤ q → A q) (hK : va_K D vwCl (xT y) s) (hi0 : 0 ≤ i.toInt) (hi1 : i.toInt + 6 ≤ (L : Int)) (hCX : CX y h0 t X) (hRX : RX y h1 t Y) (hP : va_P D vwCl (X ++ Y) H) (hD : va_D A (X ++ Y)) (hS : va_S A s.heap H locs) (hl : lv_has ls 4 [(3, .int i), (2, .ref h1), (1, .ref h0), (0, .ref b)]) (kk : ∀ (t : Int) (X Y : va_W) (H : Heap) (locs : List Loc) (ls : Array Slot), CX y h0 t X → RX y h1 t Y → va_P D vwCl (X ++ Y) H → va_D A (X ++ Y) → va_S A s.heap H locs → lv_has ls 4 [(3, .int i), (2, .ref h1), (1, .ref h0), (0, .ref b)] → W p l e room_1 s m #[Value.ref b] below meth c H locs 135 68060 (lw_Z below #[Value.ref b] s) (F0 m 951 ls [])) : W p l e room_1 s m #[Value.ref b] below meth c H locs 135 68060 (lw_Z below #[Value.ref b] s) (F0 m 793 ls []) := by
  obtain ⟨hx, hb, hr, hml, hown, hts, hX, hbl, hlocks, hgv⟩ := id C0
  have hown : s.vm.findClass RL = some m.cls := hown
  obtain ⟨ad, iv, pv, tv, o1, o2, r1, r2, fi, F1, F2, τ, rfl, rfl, hXI, hKI, hC22⟩ := hCX
  obtain ⟨am, zw, σ, rfl, rfl, hRI, hAT, hR1⟩ := hRX
  obtain ⟨ht, hd, hg, hPG, hop, hB49, hB62, hB63, hB25, hB64, hB65, hB26, hB35, hB80, hB50, hB51, hB52, hB53, hB45, hB46, hB55, hB56, hB57, hB58, hB75, hB76⟩ := id hRI
  refine lv_aload_n hx hb dL_law_793 rfl (lv_at hl 2 rfl) ?_
  refine lv_aload_n hx hb dL_law_794 rfl (lv_at hl 3 rfl) ?_
  refine lv_iload_n hx hb dL_law_795 rfl (lv_at hl 0 rfl) ?_
  refine lv_iconst (v := 1) hx hb dL_law_796 (by decide) ?_
  refine lv_iadd hx hb dL_law_797 ?_
  refine va_sld hx hb hX hbl hbA hS (x_ix (i := i) (k := 1) hi0 hi1 hL (by decide) (by decide)) dL_law_798 ?_
  refine x_calliA (X := (xwd y ad iv pv tv (KL y (ad 190) o1 o2 r1 r2 fi F1 F2) τ)) (pl := mwd y am zw σ) (w1 := fun (u : OS) => xwd y ad iv pv tv (KL y (ad 190) o1 o2 r1 r2 fi F1 F2) u) (va_runV (As := [.int (xs (Int32.toNatClampNeg (i + 1)))]) (rest := []) ⟨hx, hb, hml, hown, hts⟩ (x_m_moves l D y H.size ad iv pv tv (KL y (ad 190) o1 o2 r1 r2 fi F1 F2) τ (xs (Int32.toNatClampNeg (i + 1))) hXI) (cwV 1 hts gl_34 rfl rfl rfl (by decide +kernel) ⟨Nat.le_of_ble_eq_true rfl, Nat.le_of_ble_eq_true rfl⟩) (x_preV (q := (RX11, TX11, 11)) hK (x_lP hP) (x_lD hD) (ci := 10) (q0 := 0) rfl rfl) rfl rfl hl.1 rfl (lv_room (Nat.le_of_ble_eq_true rfl)) dL_law_799 ⟨Nat.le_of_ble_eq_true rfl, Nat.le_of_ble_eq_true rfl⟩) hP hD hS hA (fun z1 u1 H locs hw1 hP hD hS => ?_)
  have hCX2 : CX y (ad 0) t (xwd y ad iv pv tv (KL y (ad 190) o1 o2 r1 r2 fi F1 F2) u1) := ⟨ad, iv, pv, tv, o1, o2, r1, r2, fi, F1, F2, u1, rfl, rfl, hw1.1, hKI, (congrArg Int32.toInt hw1.2).trans hC22⟩
  refine lv_pop hx hb dL_law_802 rfl ?_
  refine lv_aload_n hx hb dL_law_803 rfl (lv_at hl 1 rfl) ?_
  refine lv_aload_n hx hb dL_law_804 rfl (lv_at hl 3 rfl) ?_
  refine lv_iload_n hx hb dL_law_805 rfl (lv_at hl 0 rfl) ?_
  refine lv_iconst (v := 1) hx hb dL_law_806 (by decide) ?_
  refine lv_iadd hx hb dL_law_807 ?_
  refine va_sld hx hb hX hbl hbA hS (x_ix (i := i) (k := 1) hi0 hi1 hL (by decide) (by decide)) dL_law_808 ?_
  refine x_calliB (X := mwd y am zw σ) (pl := (xwd y ad iv pv tv (KL y (ad 190) o1 o2 r1 r2 fi F1 F2) u1)) (w1 := fun (u : (Nat → Int32)) => mwd y am zw (tI σ 74 u)) (va_runV (As := [.int (xs (Int32.toNatClampNeg (i + 1)))]) (rest := []) ⟨hx, hb, hml, hown, hts⟩ (q_moves l D y H.size am zw σ (xs (Int32.toNatClampNeg (i + 1))) ⟨hPG.1, hPG.2.1⟩ hop hB62 hB65 hB64) (cwV 1 hts gl_35 rfl rfl rfl (by decide +kernel) ⟨Nat.le_of_ble_eq_true rfl, Nat.le_of_ble_eq_true rfl⟩) (x_preV (q := (RX12, TX12, 85)) hK (x_rP hP) (x_rD hD) (ci := 11) (q0 := 0) rfl rfl) rfl rfl hl.1 rfl (lv_room (Nat.le_of_ble_eq_true rfl)) dL_law_809 ⟨Nat.le_of_ble_eq_true rfl, Nat.le_of_ble_eq_true rfl⟩) hP hD hS hA (fun z2 u2 H locs hw2 hP hD hS => ?_)
  clear hw2
  have hRI2 : RI (tI σ 74 u2) := ⟨ht, hd, hg, hPG, hop, hB49, hB62, hB63, hB25, hB64, hB65, hB26, hB35, hB80, hB50, hB51, hB52, hB53, hB45, hB46, hB55, hB56, hB57, hB58, hB75, hB76⟩
  have hRX2 : RX y (am 1) t (mwd y am zw (tI σ 74 u2)) := ⟨am, zw, _, rfl, rfl, hRI2, hAT, hR1⟩
  refine lv_pop hx hb dL_law_812 rfl ?_
  refine lv_goto (tgt := 951) hx hb dL_law_813 (by decide) ?_
  exact kk _ _ _ _ _ _ hCX2 hRX2 hP hD hS hl
set_option maxHeartbeats 4000000 in
set_option maxRecDepth 100000 in
theorem law_case_18 {D : va_G} {y : Nat → ClassId} {p : Program} {e : Env} {s : State} {m : MethodId} {below : List Frame} {meth : Method} {c : Code} (l : Launch) {b L : Nat} {xs : Nat → Int32} {A : Nat → Prop} {H : Heap} {locs : List Loc} {ls : Array Slot} {h0 h1 : Nat} {t : Int} {X Y : va_W} {i : Int32} (C0 : lw_At p s m meth c b L xs) (hL : L ≤ 3072) (hAl : ∀ q, A q → s.heap.size ≤ q) (hbA : ¬ A b) (hA : ∀ q, s.heap.size ≤ q → A q) (hK : va_K D vwCl (xT y) s) (hi0 : 0 ≤ i.toInt) (hi1 : i.toInt + 6 ≤ (L : Int)) (hCX : CX y h0 t X) (hRX : RX y h1 t Y) (hP : va_P D vwCl (X ++ Y) H) (hD : va_D A (X ++ Y)) (hS : va_S A s.heap H locs) (hl : lv_has ls 4 [(3, .int i), (2, .ref h1), (1, .ref h0), (0, .ref b)]) (kk : ∀ (t : Int) (X Y : va_W) (H : Heap) (locs : List Loc) (ls : Array Slot), CX y h0 t X → RX y h1 t Y → va_P D vwCl (X ++ Y) H → va_D A (X ++ Y) → va_S A s.heap H locs → lv_has ls 4 [(3, .int i), (2, .ref h1), (1, .ref h0), (0, .ref b)] → W p l e room_1 s m #[Value.ref b] below meth c H locs 135 68060 (lw_Z below #[Value.ref b] s) (F0 m 951 ls [])) : W p l e room_1 s m #[Value.ref b] below meth c H locs 135 68060 (lw_Z below #[Value.ref b] s) (F0 m 816 ls []) := by
  obtain ⟨hx, hb, hr, hml, hown, hts, hX, hbl, hlocks, hgv⟩ := id C0
  have hown : s.vm.findClass RL = some m.cls := hown
  obtain ⟨ad, iv, pv, tv, o1, o2, r1, r2, fi, F1, F2, τ, rfl, rfl, hXI, hKI, hC22⟩ := hCX
  obtain ⟨am, zw, σ, rfl, rfl, hRI, hAT, hR1⟩ := hRX
  obtain ⟨ht, hd, hg, hPG, hop, hB49, hB62, hB63, hB25, hB64, hB65, hB26, hB35, hB80, hB50, hB51, hB52, hB53, hB45, hB46, hB55, hB56, hB57, hB58, hB75, hB76⟩ := id hRI
  refine lv_aload_n hx hb dL_law_816 rfl (lv_at hl 2 rfl) ?_
  refine lv_aload_n hx hb dL_law_817 rfl (lv_at hl 3 rfl) ?_
  refine lv_iload_n hx hb dL_law_818 rfl (lv_at hl 0 rfl) ?_
  refine lv_iconst (v := 1) hx hb dL_law_819 (by decide) ?_
  refine lv_iadd hx hb dL_law_820 ?_
  refine va_sld hx hb hX hbl hbA hS (x_ix (i := i) (k := 1) hi0 hi1 hL (by decide) (by decide)) dL_law_821 ?_
  refine lv_aload_n hx hb dL_law_822 rfl (lv_at hl 3 rfl) ?_
  refine lv_iload_n hx hb dL_law_823 rfl (lv_at hl 0 rfl) ?_
  refine lv_iconst (v := 2) hx hb dL_law_824 (by decide) ?_
  refine lv_iadd hx hb dL_law_825 ?_
  refine va_sld hx hb hX hbl hbA hS (x_ix (i := i) (k := 2) hi0 hi1 hL (by decide) (by decide)) dL_law_826 ?_
  refine x_calliA (X := (xwd y ad iv pv tv (KL y (ad 190) o1 o2 r1 r2 fi F1 F2) τ)) (pl := mwd y am zw σ) (w1 := fun (u : OS) => xwd y ad iv pv tv (KL y (ad 190) o1 o2 r1 r2 fi F1 F2) u) (va_runV (As := [.int (xs (Int32.toNatClampNeg (i + 1))), .int (xs (Int32.toNatClampNeg (i + 2)))]) (rest := []) ⟨hx, hb, hml, hown, hts⟩ (x_m_ways l D y H.size ad iv pv tv (KL y (ad 190) o1 o2 r1 r2 fi F1 F2) τ (xs (Int32.toNatClampNeg (i + 1))) (xs (Int32.toNatClampNeg (i + 2))) hXI) (cwV 2 hts gl_36 rfl rfl rfl (by decide +kernel) ⟨Nat.le_of_ble_eq_true rfl, Nat.le_of_ble_eq_true rfl⟩) (x_preV (q := (RX11, TX11, 11)) hK (x_lP hP) (x_lD hD) (ci := 10) (q0 := 0) rfl rfl) rfl rfl hl.1 rfl (lv_room (Nat.le_of_ble_eq_true rfl)) dL_law_827 ⟨Nat.le_of_ble_eq_true rfl, Nat.le_of_ble_eq_true rfl⟩) hP hD hS hA (fun z1 u1 H locs hw1 hP hD hS => ?_)
  have hCX2 : CX y (ad 0) t (xwd y ad iv pv tv (KL y (ad 190) o1 o2 r1 r2 fi F1 F2) u1) := ⟨ad, iv, pv, tv, o1, o2, r1, r2, fi, F1, F2, u1, rfl, rfl, hw1.1, hKI, (congrArg Int32.toInt hw1.2).trans hC22⟩
  refine lv_pop hx hb dL_law_830 rfl ?_
  refine lv_aload_n hx hb dL_law_831 rfl (lv_at hl 1 rfl) ?_
  refine lv_aload_n hx hb dL_law_832 rfl (lv_at hl 3 rfl) ?_
  refine lv_iload_n hx hb dL_law_833 rfl (lv_at hl 0 rfl) ?_
  refine lv_iconst (v := 1) hx hb dL_law_834 (by decide) ?_
  refine lv_iadd hx hb dL_law_835 ?_
  refine va_sld hx hb hX hbl hbA hS (x_ix (i := i) (k := 1) hi0 hi1 hL (by decide) (by decide)) dL_law_836 ?_
  refine lv_aload_n hx hb dL_law_837 rfl (lv_at hl 3 rfl) ?_
  refine lv_iload_n hx hb dL_law_838 rfl (lv_at hl 0 rfl) ?_
  refine lv_iconst (v := 2) hx hb dL_law_839 (by decide) ?_
  refine lv_iadd hx hb dL_law_840 ?_
  refine va_sld hx hb hX hbl hbA hS (x_ix (i := i) (k := 2) hi0 hi1 hL (by decide) (by decide)) dL_law_841 ?_
  refine x_calliB (X := mwd y am zw σ) (pl := (xwd y ad iv pv tv (KL y (ad 190) o1 o2 r1 r2 fi F1 F2) u1)) (w1 := fun (u : (Nat → Int64)) => mwd y am zw (tJ σ 77 u)) (va_runV (As := [.int (xs (Int32.toNatClampNeg (i + 1))), .int (xs (Int32.toNatClampNeg (i + 2)))]) (rest := []) ⟨hx, hb, hml, hown, hts⟩ (q_ways l D y H.size am zw σ (xs (Int32.toNatClampNeg (i + 1))) (xs (Int32.toNatClampNeg (i + 2))) ⟨hPG.1, hPG.2.1⟩ hop hB62 hB65 hB64) (cwV 2 hts gl_37 rfl rfl rfl (by decide +kernel) ⟨Nat.le_of_ble_eq_true rfl, Nat.le_of_ble_eq_true rfl⟩) (x_preV (q := (RX12, TX12, 85)) hK (x_rP hP) (x_rD hD) (ci := 11) (q0 := 0) rfl rfl) rfl rfl hl.1 rfl (lv_room (Nat.le_of_ble_eq_true rfl)) dL_law_842 ⟨Nat.le_of_ble_eq_true rfl, Nat.le_of_ble_eq_true rfl⟩) hP hD hS hA (fun z2 u2 H locs hw2 hP hD hS => ?_)
  clear hw2
  have hRI2 : RI (tJ σ 77 u2) := ⟨ht, hd, hg, hPG, hop, hB49, hB62, hB63, hB25, hB64, hB65, hB26, hB35, hB80, hB50, hB51, hB52, hB53, hB45, hB46, hB55, hB56, hB57, hB58, hB75, hB76⟩
  have hRX2 : RX y (am 1) t (mwd y am zw (tJ σ 77 u2)) := ⟨am, zw, _, rfl, rfl, hRI2, hAT, hR1⟩
  refine lv_pop hx hb dL_law_845 rfl ?_
  refine lv_goto (tgt := 951) hx hb dL_law_846 (by decide) ?_
  exact kk _ _ _ _ _ _ hCX2 hRX2 hP hD hS hl
set_option maxHeartbeats 4000000 in
set_option maxRecDepth 100000 in
theorem law_case_19 {D : va_G} {y : Nat → ClassId} {p : Program} {e : Env} {s : State} {m : MethodId} {below : List Frame} {meth : Method} {c : Code} (l : Launch) {b L : Nat} {xs : Nat → Int32} {A : Nat → Prop} {H : Heap} {locs : List Loc} {ls : Array Slot} {h0 h1 : Nat} {t : Int} {X Y : va_W} {i : Int32} (C0 : lw_At p s m meth c b L xs) (hL : L ≤ 3072) (hAl : ∀ q, A q → s.heap.size ≤ q) (hbA : ¬ A b) (hA : ∀ q, s.heap.size ≤ q → A q) (hK : va_K D vwCl (xT y) s) (hi0 : 0 ≤ i.toInt) (hi1 : i.toInt + 6 ≤ (L : Int)) (hCX : CX y h0 t X) (hRX : RX y h1 t Y) (hP : va_P D vwCl (X ++ Y) H) (hD : va_D A (X ++ Y)) (hS : va_S A s.heap H locs) (hl : lv_has ls 4 [(3, .int i), (2, .ref h1), (1, .ref h0), (0, .ref b)]) (kk : ∀ (t : Int) (X Y : va_W) (H : Heap) (locs : List Loc) (ls : Array Slot), CX y h0 t X → RX y h1 t Y → va_P D vwCl (X ++ Y) H → va_D A (X ++ Y) → va_S A s.heap H locs → lv_has ls 4 [(3, .int i), (2, .ref h1), (1, .ref h0), (0, .ref b)] → W p l e room_1 s m #[Value.ref b] below meth c H locs 135 68060 (lw_Z below #[Value.ref b] s) (F0 m 951 ls [])) : W p l e room_1 s m #[Value.ref b] below meth c H locs 135 68060 (lw_Z below #[Value.ref b] s) (F0 m 849 ls []) := by
  obtain ⟨hx, hb, hr, hml, hown, hts, hX, hbl, hlocks, hgv⟩ := id C0
  have hown : s.vm.findClass RL = some m.cls := hown
  obtain ⟨ad, iv, pv, tv, o1, o2, r1, r2, fi, F1, F2, τ, rfl, rfl, hXI, hKI, hC22⟩ := hCX
  obtain ⟨am, zw, σ, rfl, rfl, hRI, hAT, hR1⟩ := hRX
  obtain ⟨ht, hd, hg, hPG, hop, hB49, hB62, hB63, hB25, hB64, hB65, hB26, hB35, hB80, hB50, hB51, hB52, hB53, hB45, hB46, hB55, hB56, hB57, hB58, hB75, hB76⟩ := id hRI
  refine lv_aload_n hx hb dL_law_849 rfl (lv_at hl 2 rfl) ?_
  refine x_calliA (X := (xwd y ad iv pv tv (KL y (ad 190) o1 o2 r1 r2 fi F1 F2) τ)) (pl := mwd y am zw σ) (w1 := fun (u : OS) => xwd y ad iv pv tv (KL y (ad 190) o1 o2 r1 r2 fi F1 F2) u) (va_runV (As := []) (rest := []) ⟨hx, hb, hml, hown, hts⟩ (x_m_groups l D y H.size ad iv pv tv (KL y (ad 190) o1 o2 r1 r2 fi F1 F2) τ  hXI) (cwV 0 hts gl_38 rfl rfl rfl (by decide +kernel) ⟨Nat.le_of_ble_eq_true rfl, Nat.le_of_ble_eq_true rfl⟩) (x_preV (q := (RX11, TX11, 11)) hK (x_lP hP) (x_lD hD) (ci := 10) (q0 := 0) rfl rfl) rfl rfl hl.1 rfl (lv_room (Nat.le_of_ble_eq_true rfl)) dL_law_850 ⟨Nat.le_of_ble_eq_true rfl, Nat.le_of_ble_eq_true rfl⟩) hP hD hS hA (fun z1 u1 H locs hw1 hP hD hS => ?_)
  have hCX2 : CX y (ad 0) t (xwd y ad iv pv tv (KL y (ad 190) o1 o2 r1 r2 fi F1 F2) u1) := ⟨ad, iv, pv, tv, o1, o2, r1, r2, fi, F1, F2, u1, rfl, rfl, hw1.1, hKI, (congrArg Int32.toInt hw1.2).trans hC22⟩
  refine lv_pop hx hb dL_law_853 rfl ?_
  refine lv_aload_n hx hb dL_law_854 rfl (lv_at hl 1 rfl) ?_
  refine x_calliB (X := mwd y am zw σ) (pl := (xwd y ad iv pv tv (KL y (ad 190) o1 o2 r1 r2 fi F1 F2) u1)) (w1 := fun (u : Int32 × (Nat → Int32) × Int32 × (Nat → Int32) × (Nat → Int32)) => mwd y am zw (tI (tI (sI (tI (sI σ 79 u.1) 81 u.2.1) 78 u.2.2.1) 74 u.2.2.2.1) 80 u.2.2.2.2)) (va_runV (As := []) (rest := []) ⟨hx, hb, hml, hown, hts⟩ (q_groups l D y H.size am zw σ hg.1 hg.2 ⟨hPG.1, hPG.2.1⟩ hop hB80 hB62 hB65 hB64) (cwV 0 hts gl_39 rfl rfl rfl (by decide +kernel) ⟨Nat.le_of_ble_eq_true rfl, Nat.le_of_ble_eq_true rfl⟩) (x_preV (q := (RX12, TX12, 85)) hK (x_rP hP) (x_rD hD) (ci := 11) (q0 := 0) rfl rfl) rfl rfl hl.1 rfl (lv_room (Nat.le_of_ble_eq_true rfl)) dL_law_855 ⟨Nat.le_of_ble_eq_true rfl, Nat.le_of_ble_eq_true rfl⟩) hP hD hS hA (fun z2 u2 H locs hw2 hP hD hS => ?_)
  obtain ⟨⟨k0, k1⟩, k2⟩ := hw2
  have hRI2 : RI (tI (tI (sI (tI (sI σ 79 u2.1) 81 u2.2.1) 78 u2.2.2.1) 74 u2.2.2.2.1) 80 u2.2.2.2.2) := ⟨ht, hd, ⟨k0, k1⟩, hPG, hop, hB49, hB62, hB63, hB25, hB64, hB65, hB26, hB35, k2, hB50, hB51, hB52, hB53, hB45, hB46, hB55, hB56, hB57, hB58, hB75, hB76⟩
  have hRX2 : RX y (am 1) t (mwd y am zw (tI (tI (sI (tI (sI σ 79 u2.1) 81 u2.2.1) 78 u2.2.2.1) 74 u2.2.2.2.1) 80 u2.2.2.2.2)) := ⟨am, zw, _, rfl, rfl, hRI2, hAT, hR1⟩
  refine lv_pop hx hb dL_law_858 rfl ?_
  refine lv_goto (tgt := 951) hx hb dL_law_859 (by decide) ?_
  exact kk _ _ _ _ _ _ hCX2 hRX2 hP hD hS hl
set_option maxHeartbeats 4000000 in
set_option maxRecDepth 100000 in
theorem law_case_20 {D : va_G} {y : Nat → ClassId} {p : Program} {e : Env} {s : State} {m : MethodId} {below : List Frame} {meth : Method} {c : Code} (l : Launch) {b L : Nat} {xs : Nat → Int32} {A : Nat → Prop} {H : Heap} {locs : List Loc} {ls : Array Slot} {h0 h1 : Nat} {t : Int} {X Y : va_W} {i : Int32} (C0 : lw_At p s m meth c b L xs) (hL : L ≤ 3072) (hAl : ∀ q, A q → s.heap.size ≤ q) (hbA : ¬ A b) (hA : ∀ q, s.heap.size ≤ q → A q) (hK : va_K D vwCl (xT y) s) (hi0 : 0 ≤ i.toInt) (hi1 : i.toInt + 6 ≤ (L : Int)) (hCX : CX y h0 t X) (hRX : RX y h1 t Y) (hP : va_P D vwCl (X ++ Y) H) (hD : va_D A (X ++ Y)) (hS : va_S A s.heap H locs) (hl : lv_has ls 4 [(3, .int i), (2, .ref h1), (1, .ref h0), (0, .ref b)]) (kk : ∀ (t : Int) (X Y : va_W) (H : Heap) (locs : List Loc) (ls : Array Slot), CX y h0 t X → RX y h1 t Y → va_P D vwCl (X ++ Y) H → va_D A (X ++ Y) → va_S A s.heap H locs → lv_has ls 4 [(3, .int i), (2, .ref h1), (1, .ref h0), (0, .ref b)] → W p l e room_1 s m #[Value.ref b] below meth c H locs 135 68060 (lw_Z below #[Value.ref b] s) (F0 m 951 ls [])) : W p l e room_1 s m #[Value.ref b] below meth c H locs 135 68060 (lw_Z below #[Value.ref b] s) (F0 m 862 ls []) := by
  obtain ⟨hx, hb, hr, hml, hown, hts, hX, hbl, hlocks, hgv⟩ := id C0
  have hown : s.vm.findClass RL = some m.cls := hown
  obtain ⟨ad, iv, pv, tv, o1, o2, r1, r2, fi, F1, F2, τ, rfl, rfl, hXI, hKI, hC22⟩ := hCX
  obtain ⟨am, zw, σ, rfl, rfl, hRI, hAT, hR1⟩ := hRX
  obtain ⟨ht, hd, hg, hPG, hop, hB49, hB62, hB63, hB25, hB64, hB65, hB26, hB35, hB80, hB50, hB51, hB52, hB53, hB45, hB46, hB55, hB56, hB57, hB58, hB75, hB76⟩ := id hRI
  refine lv_aload_n hx hb dL_law_862 rfl (lv_at hl 2 rfl) ?_
  refine lv_aload_n hx hb dL_law_863 rfl (lv_at hl 3 rfl) ?_
  refine lv_iload_n hx hb dL_law_864 rfl (lv_at hl 0 rfl) ?_
  refine lv_iconst (v := 1) hx hb dL_law_865 (by decide) ?_
  refine lv_iadd hx hb dL_law_866 ?_
  refine va_sld hx hb hX hbl hbA hS (x_ix (i := i) (k := 1) hi0 hi1 hL (by decide) (by decide)) dL_law_867 ?_
  refine x_calliA (X := (xwd y ad iv pv tv (KL y (ad 190) o1 o2 r1 r2 fi F1 F2) τ)) (pl := mwd y am zw σ) (w1 := fun (u : OS) => xwd y ad iv pv tv (KL y (ad 190) o1 o2 r1 r2 fi F1 F2) u) (va_runV (As := [.int (xs (Int32.toNatClampNeg (i + 1)))]) (rest := []) ⟨hx, hb, hml, hown, hts⟩ (x_m_group l D y H.size ad iv pv tv (KL y (ad 190) o1 o2 r1 r2 fi F1 F2) τ (xs (Int32.toNatClampNeg (i + 1))) hXI) (cwV 1 hts gl_40 rfl rfl rfl (by decide +kernel) ⟨Nat.le_of_ble_eq_true rfl, Nat.le_of_ble_eq_true rfl⟩) (x_preV (q := (RX11, TX11, 11)) hK (x_lP hP) (x_lD hD) (ci := 10) (q0 := 0) rfl rfl) rfl rfl hl.1 rfl (lv_room (Nat.le_of_ble_eq_true rfl)) dL_law_868 ⟨Nat.le_of_ble_eq_true rfl, Nat.le_of_ble_eq_true rfl⟩) hP hD hS hA (fun z1 u1 H locs hw1 hP hD hS => ?_)
  have hCX2 : CX y (ad 0) t (xwd y ad iv pv tv (KL y (ad 190) o1 o2 r1 r2 fi F1 F2) u1) := ⟨ad, iv, pv, tv, o1, o2, r1, r2, fi, F1, F2, u1, rfl, rfl, hw1.1, hKI, (congrArg Int32.toInt hw1.2).trans hC22⟩
  refine lv_pop hx hb dL_law_871 rfl ?_
  refine lv_aload_n hx hb dL_law_872 rfl (lv_at hl 1 rfl) ?_
  refine lv_aload_n hx hb dL_law_873 rfl (lv_at hl 3 rfl) ?_
  refine lv_iload_n hx hb dL_law_874 rfl (lv_at hl 0 rfl) ?_
  refine lv_iconst (v := 1) hx hb dL_law_875 (by decide) ?_
  refine lv_iadd hx hb dL_law_876 ?_
  refine va_sld hx hb hX hbl hbA hS (x_ix (i := i) (k := 1) hi0 hi1 hL (by decide) (by decide)) dL_law_877 ?_
  refine x_calliB (X := mwd y am zw σ) (pl := (xwd y ad iv pv tv (KL y (ad 190) o1 o2 r1 r2 fi F1 F2) u1)) (w1 := fun (u : Unit) => mwd y am zw σ) (va_runV (As := [.int (xs (Int32.toNatClampNeg (i + 1)))]) (rest := []) ⟨hx, hb, hml, hown, hts⟩ (q_group l D y H.size am zw σ (xs (Int32.toNatClampNeg (i + 1))) hg.1 hg.2) (cwV 1 hts gl_41 rfl rfl rfl (by decide +kernel) ⟨Nat.le_of_ble_eq_true rfl, Nat.le_of_ble_eq_true rfl⟩) (x_preV (q := (RX12, TX12, 85)) hK (x_rP hP) (x_rD hD) (ci := 11) (q0 := 0) rfl rfl) rfl rfl hl.1 rfl (lv_room (Nat.le_of_ble_eq_true rfl)) dL_law_878 ⟨Nat.le_of_ble_eq_true rfl, Nat.le_of_ble_eq_true rfl⟩) hP hD hS hA (fun z2 u2 H locs hw2 hP hD hS => ?_)
  clear hw2
  have hRI2 : RI σ := ⟨ht, hd, hg, hPG, hop, hB49, hB62, hB63, hB25, hB64, hB65, hB26, hB35, hB80, hB50, hB51, hB52, hB53, hB45, hB46, hB55, hB56, hB57, hB58, hB75, hB76⟩
  have hRX2 : RX y (am 1) t (mwd y am zw σ) := ⟨am, zw, _, rfl, rfl, hRI2, hAT, hR1⟩
  refine lv_pop hx hb dL_law_881 rfl ?_
  refine lv_goto (tgt := 951) hx hb dL_law_882 (by decide) ?_
  exact kk _ _ _ _ _ _ hCX2 hRX2 hP hD hS hl
set_option maxHeartbeats 4000000 in
set_option maxRecDepth 100000 in
theorem law_case_21 {D : va_G} {y : Nat → ClassId} {p : Program} {e : Env} {s : State} {m : MethodId} {below : List Frame} {meth : Method} {c : Code} (l : Launch) {b L : Nat} {xs : Nat → Int32} {A : Nat → Prop} {H : Heap} {locs : List Loc} {ls : Array Slot} {h0 h1 : Nat} {t : Int} {X Y : va_W} {i : Int32} (C0 : lw_At p s m meth c b L xs) (hL : L ≤ 3072) (hAl : ∀ q, A q → s.heap.size ≤ q) (hbA : ¬ A b) (hA : ∀ q, s.heap.size ≤ q → A q) (hK : va_K D vwCl (xT y) s) (hi0 : 0 ≤ i.toInt) (hi1 : i.toInt + 6 ≤ (L : Int)) (hCX : CX y h0 t X) (hRX : RX y h1 t Y) (hP : va_P D vwCl (X ++ Y) H) (hD : va_D A (X ++ Y)) (hS : va_S A s.heap H locs) (hl : lv_has ls 4 [(3, .int i), (2, .ref h1), (1, .ref h0), (0, .ref b)]) (kk : ∀ (t : Int) (X Y : va_W) (H : Heap) (locs : List Loc) (ls : Array Slot), CX y h0 t X → RX y h1 t Y → va_P D vwCl (X ++ Y) H → va_D A (X ++ Y) → va_S A s.heap H locs → lv_has ls 4 [(3, .int i), (2, .ref h1), (1, .ref h0), (0, .ref b)] → W p l e room_1 s m #[Value.ref b] below meth c H locs 135 68060 (lw_Z below #[Value.ref b] s) (F0 m 951 ls [])) : W p l e room_1 s m #[Value.ref b] below meth c H locs 135 68060 (lw_Z below #[Value.ref b] s) (F0 m 885 ls []) := by
  obtain ⟨hx, hb, hr, hml, hown, hts, hX, hbl, hlocks, hgv⟩ := id C0
  have hown : s.vm.findClass RL = some m.cls := hown
  obtain ⟨ad, iv, pv, tv, o1, o2, r1, r2, fi, F1, F2, τ, rfl, rfl, hXI, hKI, hC22⟩ := hCX
  obtain ⟨am, zw, σ, rfl, rfl, hRI, hAT, hR1⟩ := hRX
  obtain ⟨ht, hd, hg, hPG, hop, hB49, hB62, hB63, hB25, hB64, hB65, hB26, hB35, hB80, hB50, hB51, hB52, hB53, hB45, hB46, hB55, hB56, hB57, hB58, hB75, hB76⟩ := id hRI
  refine lv_aload_n hx hb dL_law_885 rfl (lv_at hl 2 rfl) ?_
  refine lv_aload_n hx hb dL_law_886 rfl (lv_at hl 3 rfl) ?_
  refine lv_iload_n hx hb dL_law_887 rfl (lv_at hl 0 rfl) ?_
  refine lv_iconst (v := 1) hx hb dL_law_888 (by decide) ?_
  refine lv_iadd hx hb dL_law_889 ?_
  refine va_sld hx hb hX hbl hbA hS (x_ix (i := i) (k := 1) hi0 hi1 hL (by decide) (by decide)) dL_law_890 ?_
  refine lv_aload_n hx hb dL_law_891 rfl (lv_at hl 3 rfl) ?_
  refine lv_iload_n hx hb dL_law_892 rfl (lv_at hl 0 rfl) ?_
  refine lv_iconst (v := 2) hx hb dL_law_893 (by decide) ?_
  refine lv_iadd hx hb dL_law_894 ?_
  refine va_sld hx hb hX hbl hbA hS (x_ix (i := i) (k := 2) hi0 hi1 hL (by decide) (by decide)) dL_law_895 ?_
  refine x_calliA (X := (xwd y ad iv pv tv (KL y (ad 190) o1 o2 r1 r2 fi F1 F2) τ)) (pl := mwd y am zw σ) (w1 := fun (u : Int32 × (Nat → Nat → Int32) × (Nat → Nat → Int32)) => xwd y ad iv pv tv (KL y (ad 190) o1 o2 r1 r2 u.1 u.2.1 u.2.2) τ) (va_runV (As := [.int (xs (Int32.toNatClampNeg (i + 1))), .int (xs (Int32.toNatClampNeg (i + 2)))]) (rest := []) ⟨hx, hb, hml, hown, hts⟩ (x_m_again l D y H.size ad iv pv tv τ o1 o2 r1 r2 fi F1 F2 hKI (xs (Int32.toNatClampNeg (i + 1))) (xs (Int32.toNatClampNeg (i + 2)))) (cwV 2 hts gl_42 rfl rfl rfl (by decide +kernel) ⟨Nat.le_of_ble_eq_true rfl, Nat.le_of_ble_eq_true rfl⟩) (x_preV (q := (RX11, TX11, 11)) hK (x_lP hP) (x_lD hD) (ci := 10) (q0 := 0) rfl rfl) rfl rfl hl.1 rfl (lv_room (Nat.le_of_ble_eq_true rfl)) dL_law_896 ⟨Nat.le_of_ble_eq_true rfl, Nat.le_of_ble_eq_true rfl⟩) hP hD hS hA (fun z1 u1 H locs hw1 hP hD hS => ?_)
  have hCX2 : CX y (ad 0) t (xwd y ad iv pv tv (KL y (ad 190) o1 o2 r1 r2 u1.1 u1.2.1 u1.2.2) τ) := ⟨ad, iv, pv, tv, o1, o2, r1, r2, u1.1, u1.2.1, u1.2.2, τ, rfl, rfl, hXI, hw1.2, hC22⟩
  refine lv_pop hx hb dL_law_899 rfl ?_
  refine lv_aload_n hx hb dL_law_900 rfl (lv_at hl 1 rfl) ?_
  refine lv_aload_n hx hb dL_law_901 rfl (lv_at hl 3 rfl) ?_
  refine lv_iload_n hx hb dL_law_902 rfl (lv_at hl 0 rfl) ?_
  refine lv_iconst (v := 1) hx hb dL_law_903 (by decide) ?_
  refine lv_iadd hx hb dL_law_904 ?_
  refine va_sld hx hb hX hbl hbA hS (x_ix (i := i) (k := 1) hi0 hi1 hL (by decide) (by decide)) dL_law_905 ?_
  refine lv_aload_n hx hb dL_law_906 rfl (lv_at hl 3 rfl) ?_
  refine lv_iload_n hx hb dL_law_907 rfl (lv_at hl 0 rfl) ?_
  refine lv_iconst (v := 2) hx hb dL_law_908 (by decide) ?_
  refine lv_iadd hx hb dL_law_909 ?_
  refine va_sld hx hb hX hbl hbA hS (x_ix (i := i) (k := 2) hi0 hi1 hL (by decide) (by decide)) dL_law_910 ?_
  refine x_calliB (X := mwd y am zw σ) (pl := (xwd y ad iv pv tv (KL y (ad 190) o1 o2 r1 r2 u1.1 u1.2.1 u1.2.2) τ)) (w1 := fun (u : Int32 × (Nat → Int32) × (Nat → Int32)) => mwd y am zw (tI (tI (sI σ 82 u.1) 83 u.2.1) 84 u.2.2)) (va_runV (As := [.int (xs (Int32.toNatClampNeg (i + 1))), .int (xs (Int32.toNatClampNeg (i + 2)))]) (rest := []) ⟨hx, hb, hml, hown, hts⟩ (q_againT l D y H.size am zw σ (xs (Int32.toNatClampNeg (i + 1))) (xs (Int32.toNatClampNeg (i + 2))) hAT) (cwV 2 hts gl_43 rfl rfl rfl (by decide +kernel) ⟨Nat.le_of_ble_eq_true rfl, Nat.le_of_ble_eq_true rfl⟩) (x_preV (q := (RX12, TX12, 85)) hK (x_rP hP) (x_rD hD) (ci := 11) (q0 := 0) rfl rfl) rfl rfl hl.1 rfl (lv_room (Nat.le_of_ble_eq_true rfl)) dL_law_911 ⟨Nat.le_of_ble_eq_true rfl, Nat.le_of_ble_eq_true rfl⟩) hP hD hS hA (fun z2 u2 H locs hw2 hP hD hS => ?_)
  have hAT2 := hw2.2
  obtain ⟨k0, k1⟩ := hw2
  have hRI2 : RI (tI (tI (sI σ 82 u2.1) 83 u2.2.1) 84 u2.2.2) := ⟨ht, hd, hg, hPG, hop, hB49, hB62, hB63, hB25, hB64, hB65, hB26, hB35, hB80, hB50, hB51, hB52, hB53, hB45, hB46, hB55, hB56, hB57, hB58, hB75, hB76⟩
  have hRX2 : RX y (am 1) t (mwd y am zw (tI (tI (sI σ 82 u2.1) 83 u2.2.1) 84 u2.2.2)) := ⟨am, zw, _, rfl, rfl, hRI2, hAT2, hR1⟩
  refine lv_pop hx hb dL_law_914 rfl ?_
  refine lv_goto (tgt := 951) hx hb dL_law_915 (by decide) ?_
  exact kk _ _ _ _ _ _ hCX2 hRX2 hP hD hS hl
set_option maxHeartbeats 4000000 in
set_option maxRecDepth 100000 in
theorem law_case_22 {D : va_G} {y : Nat → ClassId} {p : Program} {e : Env} {s : State} {m : MethodId} {below : List Frame} {meth : Method} {c : Code} (l : Launch) {b L : Nat} {xs : Nat → Int32} {A : Nat → Prop} {H : Heap} {locs : List Loc} {ls : Array Slot} {h0 h1 : Nat} {t : Int} {X Y : va_W} {i : Int32} (C0 : lw_At p s m meth c b L xs) (hL : L ≤ 3072) (hAl : ∀ q, A q → s.heap.size ≤ q) (hbA : ¬ A b) (hA : ∀ q, s.heap.size ≤ q → A q) (hK : va_K D vwCl (xT y) s) (hi0 : 0 ≤ i.toInt) (hi1 : i.toInt + 6 ≤ (L : Int)) (hCX : CX y h0 t X) (hRX : RX y h1 t Y) (hP : va_P D vwCl (X ++ Y) H) (hD : va_D A (X ++ Y)) (hS : va_S A s.heap H locs) (hl : lv_has ls 4 [(3, .int i), (2, .ref h1), (1, .ref h0), (0, .ref b)]) (kk : ∀ (t : Int) (X Y : va_W) (H : Heap) (locs : List Loc) (ls : Array Slot), CX y h0 t X → RX y h1 t Y → va_P D vwCl (X ++ Y) H → va_D A (X ++ Y) → va_S A s.heap H locs → lv_has ls 4 [(3, .int i), (2, .ref h1), (1, .ref h0), (0, .ref b)] → W p l e room_1 s m #[Value.ref b] below meth c H locs 135 68060 (lw_Z below #[Value.ref b] s) (F0 m 951 ls [])) : W p l e room_1 s m #[Value.ref b] below meth c H locs 135 68060 (lw_Z below #[Value.ref b] s) (F0 m 918 ls []) := by
  obtain ⟨hx, hb, hr, hml, hown, hts, hX, hbl, hlocks, hgv⟩ := id C0
  have hown : s.vm.findClass RL = some m.cls := hown
  obtain ⟨ad, iv, pv, tv, o1, o2, r1, r2, fi, F1, F2, τ, rfl, rfl, hXI, hKI, hC22⟩ := hCX
  obtain ⟨am, zw, σ, rfl, rfl, hRI, hAT, hR1⟩ := hRX
  obtain ⟨ht, hd, hg, hPG, hop, hB49, hB62, hB63, hB25, hB64, hB65, hB26, hB35, hB80, hB50, hB51, hB52, hB53, hB45, hB46, hB55, hB56, hB57, hB58, hB75, hB76⟩ := id hRI
  refine lv_aload_n hx hb dL_law_918 rfl (lv_at hl 2 rfl) ?_
  refine lv_aload_n hx hb dL_law_919 rfl (lv_at hl 3 rfl) ?_
  refine lv_iload_n hx hb dL_law_920 rfl (lv_at hl 0 rfl) ?_
  refine lv_iconst (v := 1) hx hb dL_law_921 (by decide) ?_
  refine lv_iadd hx hb dL_law_922 ?_
  refine va_sld hx hb hX hbl hbA hS (x_ix (i := i) (k := 1) hi0 hi1 hL (by decide) (by decide)) dL_law_923 ?_
  refine lv_aload_n hx hb dL_law_924 rfl (lv_at hl 3 rfl) ?_
  refine lv_iload_n hx hb dL_law_925 rfl (lv_at hl 0 rfl) ?_
  refine lv_iconst (v := 2) hx hb dL_law_926 (by decide) ?_
  refine lv_iadd hx hb dL_law_927 ?_
  refine va_sld hx hb hX hbl hbA hS (x_ix (i := i) (k := 2) hi0 hi1 hL (by decide) (by decide)) dL_law_928 ?_
  refine x_calliA (X := (xwd y ad iv pv tv (KL y (ad 190) o1 o2 r1 r2 fi F1 F2) τ)) (pl := mwd y am zw σ) (w1 := fun (u : Int32 × (Nat → Nat → Int32) × (Nat → Nat → Int32)) => xwd y ad iv pv tv (KL y (ad 190) o1 o2 r1 r2 u.1 u.2.1 u.2.2) τ) (va_runV (As := [.int (xs (Int32.toNatClampNeg (i + 1))), .int (xs (Int32.toNatClampNeg (i + 2)))]) (rest := []) ⟨hx, hb, hml, hown, hts⟩ (x_m_first l D y H.size ad iv pv tv τ o1 o2 r1 r2 fi F1 F2 hKI (xs (Int32.toNatClampNeg (i + 1))) (xs (Int32.toNatClampNeg (i + 2)))) (cwV 2 hts gl_44 rfl rfl rfl (by decide +kernel) ⟨Nat.le_of_ble_eq_true rfl, Nat.le_of_ble_eq_true rfl⟩) (x_preV (q := (RX11, TX11, 11)) hK (x_lP hP) (x_lD hD) (ci := 10) (q0 := 0) rfl rfl) rfl rfl hl.1 rfl (lv_room (Nat.le_of_ble_eq_true rfl)) dL_law_929 ⟨Nat.le_of_ble_eq_true rfl, Nat.le_of_ble_eq_true rfl⟩) hP hD hS hA (fun z1 u1 H locs hw1 hP hD hS => ?_)
  have hCX2 : CX y (ad 0) t (xwd y ad iv pv tv (KL y (ad 190) o1 o2 r1 r2 u1.1 u1.2.1 u1.2.2) τ) := ⟨ad, iv, pv, tv, o1, o2, r1, r2, u1.1, u1.2.1, u1.2.2, τ, rfl, rfl, hXI, hw1.2, hC22⟩
  refine lv_aload_n hx hb dL_law_932 rfl (lv_at hl 1 rfl) ?_
  refine lv_aload_n hx hb dL_law_933 rfl (lv_at hl 3 rfl) ?_
  refine lv_iload_n hx hb dL_law_934 rfl (lv_at hl 0 rfl) ?_
  refine lv_iconst (v := 1) hx hb dL_law_935 (by decide) ?_
  refine lv_iadd hx hb dL_law_936 ?_
  refine va_sld hx hb hX hbl hbA hS (x_ix (i := i) (k := 1) hi0 hi1 hL (by decide) (by decide)) dL_law_937 ?_
  refine lv_aload_n hx hb dL_law_938 rfl (lv_at hl 3 rfl) ?_
  refine lv_iload_n hx hb dL_law_939 rfl (lv_at hl 0 rfl) ?_
  refine lv_iconst (v := 2) hx hb dL_law_940 (by decide) ?_
  refine lv_iadd hx hb dL_law_941 ?_
  refine va_sld hx hb hX hbl hbA hS (x_ix (i := i) (k := 2) hi0 hi1 hL (by decide) (by decide)) dL_law_942 ?_
  refine x_calliB (X := mwd y am zw σ) (pl := (xwd y ad iv pv tv (KL y (ad 190) o1 o2 r1 r2 u1.1 u1.2.1 u1.2.2) τ)) (w1 := fun (u : Int32 × (Nat → Int32) × (Nat → Int32)) => mwd y am zw (tI (tI (sI σ 82 u.1) 83 u.2.1) 84 u.2.2)) (va_runV (As := [.int (xs (Int32.toNatClampNeg (i + 1))), .int (xs (Int32.toNatClampNeg (i + 2)))]) (rest := [.int z1]) ⟨hx, hb, hml, hown, hts⟩ (q_firstT l D y H.size am zw σ (xs (Int32.toNatClampNeg (i + 1))) (xs (Int32.toNatClampNeg (i + 2))) hAT) (cwV 2 hts gl_45 rfl rfl rfl (by decide +kernel) ⟨Nat.le_of_ble_eq_true rfl, Nat.le_of_ble_eq_true rfl⟩) (x_preV (q := (RX12, TX12, 85)) hK (x_rP hP) (x_rD hD) (ci := 11) (q0 := 0) rfl rfl) rfl rfl hl.1 rfl (lv_room (Nat.le_of_ble_eq_true rfl)) dL_law_943 ⟨Nat.le_of_ble_eq_true rfl, Nat.le_of_ble_eq_true rfl⟩) hP hD hS hA (fun z2 u2 H locs hw2 hP hD hS => ?_)
  have hAT2 := hw2.2
  have hE : z1 = z2 := hw1.1.trans hw2.1.symm
  obtain ⟨k0, k1⟩ := hw2
  have hRI2 : RI (tI (tI (sI σ 82 u2.1) 83 u2.2.1) 84 u2.2.2) := ⟨ht, hd, hg, hPG, hop, hB49, hB62, hB63, hB25, hB64, hB65, hB26, hB35, hB80, hB50, hB51, hB52, hB53, hB45, hB46, hB55, hB56, hB57, hB58, hB75, hB76⟩
  have hRX2 : RX y (am 1) t (mwd y am zw (tI (tI (sI σ 82 u2.1) 83 u2.2.1) 84 u2.2.2)) := ⟨am, zw, _, rfl, rfl, hRI2, hAT2, hR1⟩
  refine lv_icmp_eq (tgt := 951) hx hb dL_law_946 (by decide) (fun c9 => ?_) (fun c9 => ?_)
  · exact kk _ _ _ _ _ _ hCX2 hRX2 hP hD hS hl
  · exact absurd hE c9
