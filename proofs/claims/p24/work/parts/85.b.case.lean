set_option maxHeartbeats 4000000 in
set_option maxRecDepth 100000 in
theorem law_case_8 {D : va_G} {y : Nat → ClassId} {p : Program} {e : Env} {s : State} {m : MethodId} {below : List Frame} {meth : Method} {c : Code} (l : Launch) {b L : Nat} {xs : Nat → Int32} {A : Nat → Prop} {H : Heap} {locs : List Loc} {ls : Array Slot} {h0 h1 : Nat} {t : Int} {X Y : va_W} {i : Int32} (C0 : lw_At p s m meth c b L xs) (hL : L ≤ 3072) (hAl : ∀ q, A q → s.heap.size ≤ q) (hbA : ¬ A b) (hA : ∀ q, s.heap.size ≤ q → A q) (hK : va_K D vwCl (xT y) s) (hi0 : 0 ≤ i.toInt) (hi1 : i.toInt + 6 ≤ (L : Int)) (hCX : CX y h0 t X) (hRX : RX y h1 t Y) (hP : va_P D vwCl (X ++ Y) H) (hD : va_D A (X ++ Y)) (hS : va_S A s.heap H locs) (hl : lv_has ls 4 [(3, .int i), (2, .ref h1), (1, .ref h0), (0, .ref b)]) (kk : ∀ (t : Int) (X Y : va_W) (H : Heap) (locs : List Loc) (ls : Array Slot), CX y h0 t X → RX y h1 t Y → va_P D vwCl (X ++ Y) H → va_D A (X ++ Y) → va_S A s.heap H locs → lv_has ls 4 [(3, .int i), (2, .ref h1), (1, .ref h0), (0, .ref b)] → W p l e room_1 s m #[Value.ref b] below meth c H locs 135 68060 (lw_Z below #[Value.ref b] s) (F0 m 951 ls [])) : W p l e room_1 s m #[Value.ref b] below meth c H locs 135 68060 (lw_Z below #[Value.ref b] s) (F0 m 354 ls []) := by
  obtain ⟨hx, hb, hr, hml, hown, hts, hX, hbl, hlocks, hgv⟩ := id C0
  have hown : s.vm.findClass RL = some m.cls := hown
  obtain ⟨ad, iv, pv, tv, o1, o2, r1, r2, fi, F1, F2, τ, rfl, rfl, hXI, hKI, hC22⟩ := hCX
  obtain ⟨am, zw, σ, rfl, rfl, hRI, hAT, hR1⟩ := hRX
  obtain ⟨ht, hd, hg, hPG, hop, hB49, hB62, hB63, hB25, hB64, hB65, hB26, hB35, hB80, hB50, hB51, hB52, hB53, hB45, hB46, hB55, hB56, hB57, hB58, hB75, hB76⟩ := id hRI
  refine lv_aload_n hx hb dL_law_354 rfl (lv_at hl 2 rfl) ?_
  refine lv_aload_n hx hb dL_law_355 rfl (lv_at hl 3 rfl) ?_
  refine lv_iload_n hx hb dL_law_356 rfl (lv_at hl 0 rfl) ?_
  refine lv_iconst (v := 1) hx hb dL_law_357 (by decide) ?_
  refine lv_iadd hx hb dL_law_358 ?_
  refine va_sld hx hb hX hbl hbA hS (x_ix (i := i) (k := 1) hi0 hi1 hL (by decide) (by decide)) dL_law_359 ?_
  refine lv_aload_n hx hb dL_law_360 rfl (lv_at hl 3 rfl) ?_
  refine lv_iload_n hx hb dL_law_361 rfl (lv_at hl 0 rfl) ?_
  refine lv_iconst (v := 2) hx hb dL_law_362 (by decide) ?_
  refine lv_iadd hx hb dL_law_363 ?_
  refine va_sld hx hb hX hbl hbA hS (x_ix (i := i) (k := 2) hi0 hi1 hL (by decide) (by decide)) dL_law_364 ?_
  suffices go : ∀ r9 : Int32, W p l e room_1 s m #[Value.ref b] below meth c H locs 135 68060 (lw_Z below #[Value.ref b] s) (F0 m 373 ls [.int r9, .int (xs (Int32.toNatClampNeg (i + 1))), .ref (ad 0)]) by
    refine lv_if_eq (tgt := 372) hx hb dL_law_365 (by decide) (fun c9 => ?_) (fun c9 => ?_)
    · refine lv_iconst (v := 0) hx hb dL_law_372 (by decide) ?_
      exact go 0
    · refine lv_iconst (v := 1) hx hb dL_law_368 (by decide) ?_
      refine lv_goto (tgt := 373) hx hb dL_law_369 (by decide) ?_
      exact go 1
  intro b365
  refine x_calllA (X := (xwd y ad iv pv tv (KL y (ad 190) o1 o2 r1 r2 fi F1 F2) τ)) (pl := mwd y am zw σ) (w1 := fun (u : OS) => xwd y ad iv pv tv (KL y (ad 190) o1 o2 r1 r2 fi F1 F2) u) (va_runV (As := [.int (xs (Int32.toNatClampNeg (i + 1))), .int b365]) (rest := []) ⟨hx, hb, hml, hown, hts⟩ (x_m_input l D y H.size ad iv pv tv (KL y (ad 190) o1 o2 r1 r2 fi F1 F2) τ (xs (Int32.toNatClampNeg (i + 1))) b365 hXI) (cwV 2 hts gl_16 rfl rfl rfl (by decide +kernel) ⟨Nat.le_of_ble_eq_true rfl, Nat.le_of_ble_eq_true rfl⟩) (x_preV (q := (RX11, TX11, 11)) hK (x_lP hP) (x_lD hD) (ci := 10) (q0 := 0) rfl rfl) rfl rfl hl.1 rfl (lv_room (Nat.le_of_ble_eq_true rfl)) dL_law_373 ⟨Nat.le_of_ble_eq_true rfl, Nat.le_of_ble_eq_true rfl⟩) hP hD hS hA (fun z1 u1 H locs hw1 hP hD hS => ?_)
  have hCX2 : CX y (ad 0) t (xwd y ad iv pv tv (KL y (ad 190) o1 o2 r1 r2 fi F1 F2) u1) := ⟨ad, iv, pv, tv, o1, o2, r1, r2, fi, F1, F2, u1, rfl, rfl, hw1.1, hKI, (congrArg Int32.toInt hw1.2).trans hC22⟩
  refine lv_pop2_2 hx hb dL_law_376 rfl ?_
  refine lv_aload_n hx hb dL_law_377 rfl (lv_at hl 1 rfl) ?_
  refine lv_aload_n hx hb dL_law_378 rfl (lv_at hl 3 rfl) ?_
  refine lv_iload_n hx hb dL_law_379 rfl (lv_at hl 0 rfl) ?_
  refine lv_iconst (v := 1) hx hb dL_law_380 (by decide) ?_
  refine lv_iadd hx hb dL_law_381 ?_
  refine va_sld hx hb hX hbl hbA hS (x_ix (i := i) (k := 1) hi0 hi1 hL (by decide) (by decide)) dL_law_382 ?_
  refine lv_aload_n hx hb dL_law_383 rfl (lv_at hl 3 rfl) ?_
  refine lv_iload_n hx hb dL_law_384 rfl (lv_at hl 0 rfl) ?_
  refine lv_iconst (v := 2) hx hb dL_law_385 (by decide) ?_
  refine lv_iadd hx hb dL_law_386 ?_
  refine va_sld hx hb hX hbl hbA hS (x_ix (i := i) (k := 2) hi0 hi1 hL (by decide) (by decide)) dL_law_387 ?_
  suffices go : ∀ r9 : Int32, W p l e room_1 s m #[Value.ref b] below meth c H locs 135 68060 (lw_Z below #[Value.ref b] s) (F0 m 396 ls [.int r9, .int (xs (Int32.toNatClampNeg (i + 1))), .ref (am 1)]) by
    refine lv_if_eq (tgt := 395) hx hb dL_law_388 (by decide) (fun c9 => ?_) (fun c9 => ?_)
    · refine lv_iconst (v := 0) hx hb dL_law_395 (by decide) ?_
      exact go 0
    · refine lv_iconst (v := 1) hx hb dL_law_391 (by decide) ?_
      refine lv_goto (tgt := 396) hx hb dL_law_392 (by decide) ?_
      exact go 1
  intro b388
  refine x_calllB (X := mwd y am zw σ) (pl := (xwd y ad iv pv tv (KL y (ad 190) o1 o2 r1 r2 fi F1 F2) u1)) (w1 := fun (u : Unit) => mwd y am zw σ) (va_runV (As := [.int (xs (Int32.toNatClampNeg (i + 1))), .int b388]) (rest := []) ⟨hx, hb, hml, hown, hts⟩ (q_input l D y H.size am zw σ (xs (Int32.toNatClampNeg (i + 1))) b388 ⟨hPG.1, hPG.2.1⟩) (cwV 2 hts gl_17 rfl rfl rfl (by decide +kernel) ⟨Nat.le_of_ble_eq_true rfl, Nat.le_of_ble_eq_true rfl⟩) (x_preV (q := (RX12, TX12, 85)) hK (x_rP hP) (x_rD hD) (ci := 11) (q0 := 0) rfl rfl) rfl rfl hl.1 rfl (lv_room (Nat.le_of_ble_eq_true rfl)) dL_law_396 ⟨Nat.le_of_ble_eq_true rfl, Nat.le_of_ble_eq_true rfl⟩) hP hD hS hA (fun z2 u2 H locs hw2 hP hD hS => ?_)
  clear hw2
  have hRI2 : RI σ := ⟨ht, hd, hg, hPG, hop, hB49, hB62, hB63, hB25, hB64, hB65, hB26, hB35, hB80, hB50, hB51, hB52, hB53, hB45, hB46, hB55, hB56, hB57, hB58, hB75, hB76⟩
  have hRX2 : RX y (am 1) t (mwd y am zw σ) := ⟨am, zw, _, rfl, rfl, hRI2, hAT, hR1⟩
  refine lv_pop2_2 hx hb dL_law_399 rfl ?_
  refine lv_goto (tgt := 951) hx hb dL_law_400 (by decide) ?_
  exact kk _ _ _ _ _ _ hCX2 hRX2 hP hD hS hl
set_option maxHeartbeats 4000000 in
set_option maxRecDepth 100000 in
theorem law_case_9 {D : va_G} {y : Nat → ClassId} {p : Program} {e : Env} {s : State} {m : MethodId} {below : List Frame} {meth : Method} {c : Code} (l : Launch) {b L : Nat} {xs : Nat → Int32} {A : Nat → Prop} {H : Heap} {locs : List Loc} {ls : Array Slot} {h0 h1 : Nat} {t : Int} {X Y : va_W} {i : Int32} (C0 : lw_At p s m meth c b L xs) (hL : L ≤ 3072) (hAl : ∀ q, A q → s.heap.size ≤ q) (hbA : ¬ A b) (hA : ∀ q, s.heap.size ≤ q → A q) (hK : va_K D vwCl (xT y) s) (hi0 : 0 ≤ i.toInt) (hi1 : i.toInt + 6 ≤ (L : Int)) (hCX : CX y h0 t X) (hRX : RX y h1 t Y) (hP : va_P D vwCl (X ++ Y) H) (hD : va_D A (X ++ Y)) (hS : va_S A s.heap H locs) (hl : lv_has ls 4 [(3, .int i), (2, .ref h1), (1, .ref h0), (0, .ref b)]) (kk : ∀ (t : Int) (X Y : va_W) (H : Heap) (locs : List Loc) (ls : Array Slot), CX y h0 t X → RX y h1 t Y → va_P D vwCl (X ++ Y) H → va_D A (X ++ Y) → va_S A s.heap H locs → lv_has ls 4 [(3, .int i), (2, .ref h1), (1, .ref h0), (0, .ref b)] → W p l e room_1 s m #[Value.ref b] below meth c H locs 135 68060 (lw_Z below #[Value.ref b] s) (F0 m 951 ls [])) : W p l e room_1 s m #[Value.ref b] below meth c H locs 135 68060 (lw_Z below #[Value.ref b] s) (F0 m 403 ls []) := by
  obtain ⟨hx, hb, hr, hml, hown, hts, hX, hbl, hlocks, hgv⟩ := id C0
  have hown : s.vm.findClass RL = some m.cls := hown
  obtain ⟨ad, iv, pv, tv, o1, o2, r1, r2, fi, F1, F2, τ, rfl, rfl, hXI, hKI, hC22⟩ := hCX
  obtain ⟨am, zw, σ, rfl, rfl, hRI, hAT, hR1⟩ := hRX
  obtain ⟨ht, hd, hg, hPG, hop, hB49, hB62, hB63, hB25, hB64, hB65, hB26, hB35, hB80, hB50, hB51, hB52, hB53, hB45, hB46, hB55, hB56, hB57, hB58, hB75, hB76⟩ := id hRI
  refine lv_aload_n hx hb dL_law_403 rfl (lv_at hl 2 rfl) ?_
  refine x_calliA (X := (xwd y ad iv pv tv (KL y (ad 190) o1 o2 r1 r2 fi F1 F2) τ)) (pl := mwd y am zw σ) (w1 := fun (u : OS × Value × Value) => xwd y ad iv u.2.1 u.2.2 (KL y (ad 190) o1 o2 r1 r2 fi F1 F2) u.1) (va_runV (As := []) (rest := []) ⟨hx, hb, hml, hown, hts⟩ (x_m_run l D y H.size ad iv pv tv (KL y (ad 190) o1 o2 r1 r2 fi F1 F2) τ  hXI) (cwV 0 hts gl_18 rfl rfl rfl (by decide +kernel) ⟨Nat.le_of_ble_eq_true rfl, Nat.le_of_ble_eq_true rfl⟩) (x_preV (q := (RX11, TX11, 11)) hK (x_lP hP) (x_lD hD) (ci := 10) (q0 := 0) rfl rfl) rfl rfl hl.1 rfl (lv_room (Nat.le_of_ble_eq_true rfl)) dL_law_404 ⟨Nat.le_of_ble_eq_true rfl, Nat.le_of_ble_eq_true rfl⟩) hP hD hS hA (fun z1 u1 H locs hw1 hP hD hS => ?_)
  have hCX2 : CX y (ad 0) t (xwd y ad iv u1.2.1 u1.2.2 (KL y (ad 190) o1 o2 r1 r2 fi F1 F2) u1.1) := ⟨ad, iv, u1.2.1, u1.2.2, o1, o2, r1, r2, fi, F1, F2, u1.1, rfl, rfl, hw1.1, hKI, (congrArg Int32.toInt hw1.2).trans hC22⟩
  refine lv_pop hx hb dL_law_407 rfl ?_
  refine lv_aload_n hx hb dL_law_408 rfl (lv_at hl 1 rfl) ?_
  obtain ⟨_, _, _, _, nn, tt, g1, g2, g3⟩ := id hPG
  refine x_calliB (X := mwd y am zw σ) (pl := (xwd y ad iv u1.2.1 u1.2.2 (KL y (ad 190) o1 o2 r1 r2 fi F1 F2) u1.1)) (w1 := fun (u : Int32 × (Nat → Int32) × (Nat → Int32) × (Nat → Int32) × (Nat → Int32) × Int32 × Int64 × Int64 × Int32 × Int64 × Int64 × (Nat → Int64) × (Nat → Int64) × (Nat → Int32) × (Nat → Int32) × (Nat → Int32) × (Nat → Int32) × (Nat → Int32) × (Nat → Int32) × (Nat → Int32) × Int32 × (Nat → Int64) × (Nat → Int64)) => mwd y am zw (tJ (tJ (sI (tI (tI (tI (tI (tI (tI (tI (tJ (tJ (sJ (sJ (sI (sJ (sJ (sI (tI (tI (tI (tI (sI σ 73 u.1) 72 u.2.1) 63 u.2.2.1) 67 u.2.2.2.1) 66 u.2.2.2.2.1) 44 u.2.2.2.2.2.1) 42 u.2.2.2.2.2.2.1) 43 u.2.2.2.2.2.2.2.1) 68 u.2.2.2.2.2.2.2.2.1) 69 u.2.2.2.2.2.2.2.2.2.1) 70 u.2.2.2.2.2.2.2.2.2.2.1) 57 u.2.2.2.2.2.2.2.2.2.2.2.1) 58 u.2.2.2.2.2.2.2.2.2.2.2.2.1) 59 u.2.2.2.2.2.2.2.2.2.2.2.2.2.1) 60 u.2.2.2.2.2.2.2.2.2.2.2.2.2.2.1) 61 u.2.2.2.2.2.2.2.2.2.2.2.2.2.2.2.1) 62 u.2.2.2.2.2.2.2.2.2.2.2.2.2.2.2.2.1) 71 u.2.2.2.2.2.2.2.2.2.2.2.2.2.2.2.2.2.1) 64 u.2.2.2.2.2.2.2.2.2.2.2.2.2.2.2.2.2.2.1) 65 u.2.2.2.2.2.2.2.2.2.2.2.2.2.2.2.2.2.2.2.1) 54 u.2.2.2.2.2.2.2.2.2.2.2.2.2.2.2.2.2.2.2.2.1) 55 u.2.2.2.2.2.2.2.2.2.2.2.2.2.2.2.2.2.2.2.2.2.1) 56 u.2.2.2.2.2.2.2.2.2.2.2.2.2.2.2.2.2.2.2.2.2.2)) (va_runV (As := []) (rest := []) ⟨hx, hb, hml, hown, hts⟩ (q_run l D y H.size am zw σ ⟨hPG.1, hPG.2.1⟩ ⟨hPG.2.2.1, hPG.2.2.2.1⟩ nn tt g1 g2 g3 hop hB57 hB58 hB62 hB63 hB25 hB64 hB65 hB26 hB55 hB56 hB45 hB46) (cwV 0 hts gl_19 rfl rfl rfl (by decide +kernel) ⟨Nat.le_of_ble_eq_true rfl, Nat.le_of_ble_eq_true rfl⟩) (x_preV (q := (RX12, TX12, 85)) hK (x_rP hP) (x_rD hD) (ci := 11) (q0 := 0) rfl rfl) rfl rfl hl.1 rfl (lv_room (Nat.le_of_ble_eq_true rfl)) dL_law_409 ⟨Nat.le_of_ble_eq_true rfl, Nat.le_of_ble_eq_true rfl⟩) hP hD hS hA (fun z2 u2 H locs hw2 hP hD hS => ?_)
  obtain ⟨⟨k0, k1⟩, k2, k3, k4, k5, k6, k7, k8, k9⟩ := hw2
  have hRI2 : RI (tJ (tJ (sI (tI (tI (tI (tI (tI (tI (tI (tJ (tJ (sJ (sJ (sI (sJ (sJ (sI (tI (tI (tI (tI (sI σ 73 u2.1) 72 u2.2.1) 63 u2.2.2.1) 67 u2.2.2.2.1) 66 u2.2.2.2.2.1) 44 u2.2.2.2.2.2.1) 42 u2.2.2.2.2.2.2.1) 43 u2.2.2.2.2.2.2.2.1) 68 u2.2.2.2.2.2.2.2.2.1) 69 u2.2.2.2.2.2.2.2.2.2.1) 70 u2.2.2.2.2.2.2.2.2.2.2.1) 57 u2.2.2.2.2.2.2.2.2.2.2.2.1) 58 u2.2.2.2.2.2.2.2.2.2.2.2.2.1) 59 u2.2.2.2.2.2.2.2.2.2.2.2.2.2.1) 60 u2.2.2.2.2.2.2.2.2.2.2.2.2.2.2.1) 61 u2.2.2.2.2.2.2.2.2.2.2.2.2.2.2.2.1) 62 u2.2.2.2.2.2.2.2.2.2.2.2.2.2.2.2.2.1) 71 u2.2.2.2.2.2.2.2.2.2.2.2.2.2.2.2.2.2.1) 64 u2.2.2.2.2.2.2.2.2.2.2.2.2.2.2.2.2.2.2.1) 65 u2.2.2.2.2.2.2.2.2.2.2.2.2.2.2.2.2.2.2.2.1) 54 u2.2.2.2.2.2.2.2.2.2.2.2.2.2.2.2.2.2.2.2.2.1) 55 u2.2.2.2.2.2.2.2.2.2.2.2.2.2.2.2.2.2.2.2.2.2.1) 56 u2.2.2.2.2.2.2.2.2.2.2.2.2.2.2.2.2.2.2.2.2.2.2) := ⟨ht, hd, hg, hPG, k0, hB49, k4, k5, hB25, k6, k7, hB26, hB35, hB80, hB50, hB51, hB52, hB53, hB45, hB46, k8, k9, k2, k3, hB75, hB76⟩
  have hRX2 : RX y (am 1) t (mwd y am zw (tJ (tJ (sI (tI (tI (tI (tI (tI (tI (tI (tJ (tJ (sJ (sJ (sI (sJ (sJ (sI (tI (tI (tI (tI (sI σ 73 u2.1) 72 u2.2.1) 63 u2.2.2.1) 67 u2.2.2.2.1) 66 u2.2.2.2.2.1) 44 u2.2.2.2.2.2.1) 42 u2.2.2.2.2.2.2.1) 43 u2.2.2.2.2.2.2.2.1) 68 u2.2.2.2.2.2.2.2.2.1) 69 u2.2.2.2.2.2.2.2.2.2.1) 70 u2.2.2.2.2.2.2.2.2.2.2.1) 57 u2.2.2.2.2.2.2.2.2.2.2.2.1) 58 u2.2.2.2.2.2.2.2.2.2.2.2.2.1) 59 u2.2.2.2.2.2.2.2.2.2.2.2.2.2.1) 60 u2.2.2.2.2.2.2.2.2.2.2.2.2.2.2.1) 61 u2.2.2.2.2.2.2.2.2.2.2.2.2.2.2.2.1) 62 u2.2.2.2.2.2.2.2.2.2.2.2.2.2.2.2.2.1) 71 u2.2.2.2.2.2.2.2.2.2.2.2.2.2.2.2.2.2.1) 64 u2.2.2.2.2.2.2.2.2.2.2.2.2.2.2.2.2.2.2.1) 65 u2.2.2.2.2.2.2.2.2.2.2.2.2.2.2.2.2.2.2.2.1) 54 u2.2.2.2.2.2.2.2.2.2.2.2.2.2.2.2.2.2.2.2.2.1) 55 u2.2.2.2.2.2.2.2.2.2.2.2.2.2.2.2.2.2.2.2.2.2.1) 56 u2.2.2.2.2.2.2.2.2.2.2.2.2.2.2.2.2.2.2.2.2.2.2)) := ⟨am, zw, _, rfl, rfl, hRI2, hAT, hR1⟩
  refine lv_pop hx hb dL_law_412 rfl ?_
  refine lv_goto (tgt := 951) hx hb dL_law_413 (by decide) ?_
  exact kk _ _ _ _ _ _ hCX2 hRX2 hP hD hS hl
set_option maxHeartbeats 4000000 in
set_option maxRecDepth 100000 in
theorem law_case_10 {D : va_G} {y : Nat → ClassId} {p : Program} {e : Env} {s : State} {m : MethodId} {below : List Frame} {meth : Method} {c : Code} (l : Launch) {b L : Nat} {xs : Nat → Int32} {A : Nat → Prop} {H : Heap} {locs : List Loc} {ls : Array Slot} {h0 h1 : Nat} {t : Int} {X Y : va_W} {i : Int32} (C0 : lw_At p s m meth c b L xs) (hL : L ≤ 3072) (hAl : ∀ q, A q → s.heap.size ≤ q) (hbA : ¬ A b) (hA : ∀ q, s.heap.size ≤ q → A q) (hK : va_K D vwCl (xT y) s) (hi0 : 0 ≤ i.toInt) (hi1 : i.toInt + 6 ≤ (L : Int)) (hCX : CX y h0 t X) (hRX : RX y h1 t Y) (hP : va_P D vwCl (X ++ Y) H) (hD : va_D A (X ++ Y)) (hS : va_S A s.heap H locs) (hl : lv_has ls 4 [(3, .int i), (2, .ref h1), (1, .ref h0), (0, .ref b)]) (kk : ∀ (t : Int) (X Y : va_W) (H : Heap) (locs : List Loc) (ls : Array Slot), CX y h0 t X → RX y h1 t Y → va_P D vwCl (X ++ Y) H → va_D A (X ++ Y) → va_S A s.heap H locs → lv_has ls 4 [(3, .int i), (2, .ref h1), (1, .ref h0), (0, .ref b)] → W p l e room_1 s m #[Value.ref b] below meth c H locs 135 68060 (lw_Z below #[Value.ref b] s) (F0 m 951 ls [])) : W p l e room_1 s m #[Value.ref b] below meth c H locs 135 68060 (lw_Z below #[Value.ref b] s) (F0 m 416 ls []) := by
  obtain ⟨hx, hb, hr, hml, hown, hts, hX, hbl, hlocks, hgv⟩ := id C0
  have hown : s.vm.findClass RL = some m.cls := hown
  obtain ⟨ad, iv, pv, tv, o1, o2, r1, r2, fi, F1, F2, τ, rfl, rfl, hXI, hKI, hC22⟩ := hCX
  obtain ⟨am, zw, σ, rfl, rfl, hRI, hAT, hR1⟩ := hRX
  obtain ⟨ht, hd, hg, hPG, hop, hB49, hB62, hB63, hB25, hB64, hB65, hB26, hB35, hB80, hB50, hB51, hB52, hB53, hB45, hB46, hB55, hB56, hB57, hB58, hB75, hB76⟩ := id hRI
  refine lv_aload_n hx hb dL_law_416 rfl (lv_at hl 2 rfl) ?_
  refine lv_aload_n hx hb dL_law_417 rfl (lv_at hl 3 rfl) ?_
  refine lv_iload_n hx hb dL_law_418 rfl (lv_at hl 0 rfl) ?_
  refine lv_iconst (v := 1) hx hb dL_law_419 (by decide) ?_
  refine lv_iadd hx hb dL_law_420 ?_
  refine va_sld hx hb hX hbl hbA hS (x_ix (i := i) (k := 1) hi0 hi1 hL (by decide) (by decide)) dL_law_421 ?_
  refine x_calliA (X := (xwd y ad iv pv tv (KL y (ad 190) o1 o2 r1 r2 fi F1 F2) τ)) (pl := mwd y am zw σ) (w1 := fun (u : OS) => xwd y ad iv pv tv (KL y (ad 190) o1 o2 r1 r2 fi F1 F2) u) (va_runV (As := [.int (xs (Int32.toNatClampNeg (i + 1)))]) (rest := []) ⟨hx, hb, hml, hown, hts⟩ (x_m_ran l D y H.size ad iv pv tv (KL y (ad 190) o1 o2 r1 r2 fi F1 F2) τ (xs (Int32.toNatClampNeg (i + 1))) hXI) (cwV 1 hts gl_20 rfl rfl rfl (by decide +kernel) ⟨Nat.le_of_ble_eq_true rfl, Nat.le_of_ble_eq_true rfl⟩) (x_preV (q := (RX11, TX11, 11)) hK (x_lP hP) (x_lD hD) (ci := 10) (q0 := 0) rfl rfl) rfl rfl hl.1 rfl (lv_room (Nat.le_of_ble_eq_true rfl)) dL_law_422 ⟨Nat.le_of_ble_eq_true rfl, Nat.le_of_ble_eq_true rfl⟩) hP hD hS hA (fun z1 u1 H locs hw1 hP hD hS => ?_)
  have hCX2 : CX y (ad 0) t (xwd y ad iv pv tv (KL y (ad 190) o1 o2 r1 r2 fi F1 F2) u1) := ⟨ad, iv, pv, tv, o1, o2, r1, r2, fi, F1, F2, u1, rfl, rfl, hw1.1, hKI, (congrArg Int32.toInt hw1.2).trans hC22⟩
  refine lv_pop hx hb dL_law_425 rfl ?_
  refine lv_aload_n hx hb dL_law_426 rfl (lv_at hl 1 rfl) ?_
  refine lv_aload_n hx hb dL_law_427 rfl (lv_at hl 3 rfl) ?_
  refine lv_iload_n hx hb dL_law_428 rfl (lv_at hl 0 rfl) ?_
  refine lv_iconst (v := 1) hx hb dL_law_429 (by decide) ?_
  refine lv_iadd hx hb dL_law_430 ?_
  refine va_sld hx hb hX hbl hbA hS (x_ix (i := i) (k := 1) hi0 hi1 hL (by decide) (by decide)) dL_law_431 ?_
  refine x_calliB (X := mwd y am zw σ) (pl := (xwd y ad iv pv tv (KL y (ad 190) o1 o2 r1 r2 fi F1 F2) u1)) (w1 := fun (u : Unit) => mwd y am zw σ) (va_runV (As := [.int (xs (Int32.toNatClampNeg (i + 1)))]) (rest := []) ⟨hx, hb, hml, hown, hts⟩ (q_ran l D y H.size am zw σ (xs (Int32.toNatClampNeg (i + 1)))) (cwV 1 hts gl_21 rfl rfl rfl (by decide +kernel) ⟨Nat.le_of_ble_eq_true rfl, Nat.le_of_ble_eq_true rfl⟩) (x_preV (q := (RX12, TX12, 85)) hK (x_rP hP) (x_rD hD) (ci := 11) (q0 := 0) rfl rfl) rfl rfl hl.1 rfl (lv_room (Nat.le_of_ble_eq_true rfl)) dL_law_432 ⟨Nat.le_of_ble_eq_true rfl, Nat.le_of_ble_eq_true rfl⟩) hP hD hS hA (fun z2 u2 H locs hw2 hP hD hS => ?_)
  clear hw2
  have hRI2 : RI σ := ⟨ht, hd, hg, hPG, hop, hB49, hB62, hB63, hB25, hB64, hB65, hB26, hB35, hB80, hB50, hB51, hB52, hB53, hB45, hB46, hB55, hB56, hB57, hB58, hB75, hB76⟩
  have hRX2 : RX y (am 1) t (mwd y am zw σ) := ⟨am, zw, _, rfl, rfl, hRI2, hAT, hR1⟩
  refine lv_pop hx hb dL_law_435 rfl ?_
  refine lv_goto (tgt := 951) hx hb dL_law_436 (by decide) ?_
  exact kk _ _ _ _ _ _ hCX2 hRX2 hP hD hS hl
set_option maxHeartbeats 4000000 in
set_option maxRecDepth 100000 in
theorem law_case_11 {D : va_G} {y : Nat → ClassId} {p : Program} {e : Env} {s : State} {m : MethodId} {below : List Frame} {meth : Method} {c : Code} (l : Launch) {b L : Nat} {xs : Nat → Int32} {A : Nat → Prop} {H : Heap} {locs : List Loc} {ls : Array Slot} {h0 h1 : Nat} {t : Int} {X Y : va_W} {i : Int32} (C0 : lw_At p s m meth c b L xs) (hL : L ≤ 3072) (hAl : ∀ q, A q → s.heap.size ≤ q) (hbA : ¬ A b) (hA : ∀ q, s.heap.size ≤ q → A q) (hK : va_K D vwCl (xT y) s) (hi0 : 0 ≤ i.toInt) (hi1 : i.toInt + 6 ≤ (L : Int)) (hCX : CX y h0 t X) (hRX : RX y h1 t Y) (hP : va_P D vwCl (X ++ Y) H) (hD : va_D A (X ++ Y)) (hS : va_S A s.heap H locs) (hl : lv_has ls 4 [(3, .int i), (2, .ref h1), (1, .ref h0), (0, .ref b)]) (kk : ∀ (t : Int) (X Y : va_W) (H : Heap) (locs : List Loc) (ls : Array Slot), CX y h0 t X → RX y h1 t Y → va_P D vwCl (X ++ Y) H → va_D A (X ++ Y) → va_S A s.heap H locs → lv_has ls 4 [(3, .int i), (2, .ref h1), (1, .ref h0), (0, .ref b)] → W p l e room_1 s m #[Value.ref b] below meth c H locs 135 68060 (lw_Z below #[Value.ref b] s) (F0 m 951 ls [])) : W p l e room_1 s m #[Value.ref b] below meth c H locs 135 68060 (lw_Z below #[Value.ref b] s) (F0 m 439 ls []) := by
  obtain ⟨hx, hb, hr, hml, hown, hts, hX, hbl, hlocks, hgv⟩ := id C0
  have hown : s.vm.findClass RL = some m.cls := hown
  obtain ⟨ad, iv, pv, tv, o1, o2, r1, r2, fi, F1, F2, τ, rfl, rfl, hXI, hKI, hC22⟩ := hCX
  obtain ⟨am, zw, σ, rfl, rfl, hRI, hAT, hR1⟩ := hRX
  obtain ⟨ht, hd, hg, hPG, hop, hB49, hB62, hB63, hB25, hB64, hB65, hB26, hB35, hB80, hB50, hB51, hB52, hB53, hB45, hB46, hB55, hB56, hB57, hB58, hB75, hB76⟩ := id hRI
  refine lv_aload_n hx hb dL_law_439 rfl (lv_at hl 2 rfl) ?_
  refine lv_aload_n hx hb dL_law_440 rfl (lv_at hl 3 rfl) ?_
  refine lv_iload_n hx hb dL_law_441 rfl (lv_at hl 0 rfl) ?_
  refine lv_iconst (v := 1) hx hb dL_law_442 (by decide) ?_
  refine lv_iadd hx hb dL_law_443 ?_
  refine va_sld hx hb hX hbl hbA hS (x_ix (i := i) (k := 1) hi0 hi1 hL (by decide) (by decide)) dL_law_444 ?_
  refine lv_aload_n hx hb dL_law_445 rfl (lv_at hl 3 rfl) ?_
  refine lv_iload_n hx hb dL_law_446 rfl (lv_at hl 0 rfl) ?_
  refine lv_iconst (v := 2) hx hb dL_law_447 (by decide) ?_
  refine lv_iadd hx hb dL_law_448 ?_
  refine va_sld hx hb hX hbl hbA hS (x_ix (i := i) (k := 2) hi0 hi1 hL (by decide) (by decide)) dL_law_449 ?_
  suffices go : ∀ r9 : Int32, W p l e room_1 s m #[Value.ref b] below meth c H locs 135 68060 (lw_Z below #[Value.ref b] s) (F0 m 458 ls [.int r9, .int (xs (Int32.toNatClampNeg (i + 1))), .ref (ad 0)]) by
    refine lv_if_eq (tgt := 457) hx hb dL_law_450 (by decide) (fun c9 => ?_) (fun c9 => ?_)
    · refine lv_iconst (v := 0) hx hb dL_law_457 (by decide) ?_
      exact go 0
    · refine lv_iconst (v := 1) hx hb dL_law_453 (by decide) ?_
      refine lv_goto (tgt := 458) hx hb dL_law_454 (by decide) ?_
      exact go 1
  intro b450
  refine x_calllA (X := (xwd y ad iv pv tv (KL y (ad 190) o1 o2 r1 r2 fi F1 F2) τ)) (pl := mwd y am zw σ) (w1 := fun (u : OS) => xwd y ad iv pv tv (KL y (ad 190) o1 o2 r1 r2 fi F1 F2) u) (va_runV (As := [.int (xs (Int32.toNatClampNeg (i + 1))), .int b450]) (rest := []) ⟨hx, hb, hml, hown, hts⟩ (x_m_result l D y H.size ad iv pv tv (KL y (ad 190) o1 o2 r1 r2 fi F1 F2) τ (xs (Int32.toNatClampNeg (i + 1))) b450 hXI) (cwV 2 hts gl_22 rfl rfl rfl (by decide +kernel) ⟨Nat.le_of_ble_eq_true rfl, Nat.le_of_ble_eq_true rfl⟩) (x_preV (q := (RX11, TX11, 11)) hK (x_lP hP) (x_lD hD) (ci := 10) (q0 := 0) rfl rfl) rfl rfl hl.1 rfl (lv_room (Nat.le_of_ble_eq_true rfl)) dL_law_458 ⟨Nat.le_of_ble_eq_true rfl, Nat.le_of_ble_eq_true rfl⟩) hP hD hS hA (fun z1 u1 H locs hw1 hP hD hS => ?_)
  have hCX2 : CX y (ad 0) t (xwd y ad iv pv tv (KL y (ad 190) o1 o2 r1 r2 fi F1 F2) u1) := ⟨ad, iv, pv, tv, o1, o2, r1, r2, fi, F1, F2, u1, rfl, rfl, hw1.1, hKI, (congrArg Int32.toInt hw1.2).trans hC22⟩
  refine lv_pop2_2 hx hb dL_law_461 rfl ?_
  refine lv_aload_n hx hb dL_law_462 rfl (lv_at hl 1 rfl) ?_
  refine lv_aload_n hx hb dL_law_463 rfl (lv_at hl 3 rfl) ?_
  refine lv_iload_n hx hb dL_law_464 rfl (lv_at hl 0 rfl) ?_
  refine lv_iconst (v := 1) hx hb dL_law_465 (by decide) ?_
  refine lv_iadd hx hb dL_law_466 ?_
  refine va_sld hx hb hX hbl hbA hS (x_ix (i := i) (k := 1) hi0 hi1 hL (by decide) (by decide)) dL_law_467 ?_
  refine lv_aload_n hx hb dL_law_468 rfl (lv_at hl 3 rfl) ?_
  refine lv_iload_n hx hb dL_law_469 rfl (lv_at hl 0 rfl) ?_
  refine lv_iconst (v := 2) hx hb dL_law_470 (by decide) ?_
  refine lv_iadd hx hb dL_law_471 ?_
  refine va_sld hx hb hX hbl hbA hS (x_ix (i := i) (k := 2) hi0 hi1 hL (by decide) (by decide)) dL_law_472 ?_
  suffices go : ∀ r9 : Int32, W p l e room_1 s m #[Value.ref b] below meth c H locs 135 68060 (lw_Z below #[Value.ref b] s) (F0 m 481 ls [.int r9, .int (xs (Int32.toNatClampNeg (i + 1))), .ref (am 1)]) by
    refine lv_if_eq (tgt := 480) hx hb dL_law_473 (by decide) (fun c9 => ?_) (fun c9 => ?_)
    · refine lv_iconst (v := 0) hx hb dL_law_480 (by decide) ?_
      exact go 0
    · refine lv_iconst (v := 1) hx hb dL_law_476 (by decide) ?_
      refine lv_goto (tgt := 481) hx hb dL_law_477 (by decide) ?_
      exact go 1
  intro b473
  refine x_calllB (X := mwd y am zw σ) (pl := (xwd y ad iv pv tv (KL y (ad 190) o1 o2 r1 r2 fi F1 F2) u1)) (w1 := fun (u : Unit) => mwd y am zw σ) (va_runV (As := [.int (xs (Int32.toNatClampNeg (i + 1))), .int b473]) (rest := []) ⟨hx, hb, hml, hown, hts⟩ (q_result l D y H.size am zw σ (xs (Int32.toNatClampNeg (i + 1))) b473 hB64 hB65) (cwV 2 hts gl_23 rfl rfl rfl (by decide +kernel) ⟨Nat.le_of_ble_eq_true rfl, Nat.le_of_ble_eq_true rfl⟩) (x_preV (q := (RX12, TX12, 85)) hK (x_rP hP) (x_rD hD) (ci := 11) (q0 := 0) rfl rfl) rfl rfl hl.1 rfl (lv_room (Nat.le_of_ble_eq_true rfl)) dL_law_481 ⟨Nat.le_of_ble_eq_true rfl, Nat.le_of_ble_eq_true rfl⟩) hP hD hS hA (fun z2 u2 H locs hw2 hP hD hS => ?_)
  clear hw2
  have hRI2 : RI σ := ⟨ht, hd, hg, hPG, hop, hB49, hB62, hB63, hB25, hB64, hB65, hB26, hB35, hB80, hB50, hB51, hB52, hB53, hB45, hB46, hB55, hB56, hB57, hB58, hB75, hB76⟩
  have hRX2 : RX y (am 1) t (mwd y am zw σ) := ⟨am, zw, _, rfl, rfl, hRI2, hAT, hR1⟩
  refine lv_pop2_2 hx hb dL_law_484 rfl ?_
  refine lv_goto (tgt := 951) hx hb dL_law_485 (by decide) ?_
  exact kk _ _ _ _ _ _ hCX2 hRX2 hP hD hS hl
set_option maxHeartbeats 4000000 in
set_option maxRecDepth 100000 in
theorem law_case_12 {D : va_G} {y : Nat → ClassId} {p : Program} {e : Env} {s : State} {m : MethodId} {below : List Frame} {meth : Method} {c : Code} (l : Launch) {b L : Nat} {xs : Nat → Int32} {A : Nat → Prop} {H : Heap} {locs : List Loc} {ls : Array Slot} {h0 h1 : Nat} {t : Int} {X Y : va_W} {i : Int32} (C0 : lw_At p s m meth c b L xs) (hL : L ≤ 3072) (hAl : ∀ q, A q → s.heap.size ≤ q) (hbA : ¬ A b) (hA : ∀ q, s.heap.size ≤ q → A q) (hK : va_K D vwCl (xT y) s) (hi0 : 0 ≤ i.toInt) (hi1 : i.toInt + 6 ≤ (L : Int)) (hCX : CX y h0 t X) (hRX : RX y h1 t Y) (hP : va_P D vwCl (X ++ Y) H) (hD : va_D A (X ++ Y)) (hS : va_S A s.heap H locs) (hl : lv_has ls 4 [(3, .int i), (2, .ref h1), (1, .ref h0), (0, .ref b)]) (kk : ∀ (t : Int) (X Y : va_W) (H : Heap) (locs : List Loc) (ls : Array Slot), CX y h0 t X → RX y h1 t Y → va_P D vwCl (X ++ Y) H → va_D A (X ++ Y) → va_S A s.heap H locs → lv_has ls 4 [(3, .int i), (2, .ref h1), (1, .ref h0), (0, .ref b)] → W p l e room_1 s m #[Value.ref b] below meth c H locs 135 68060 (lw_Z below #[Value.ref b] s) (F0 m 951 ls [])) : W p l e room_1 s m #[Value.ref b] below meth c H locs 135 68060 (lw_Z below #[Value.ref b] s) (F0 m 488 ls []) := by
  obtain ⟨hx, hb, hr, hml, hown, hts, hX, hbl, hlocks, hgv⟩ := id C0
  have hown : s.vm.findClass RL = some m.cls := hown
  obtain ⟨ad, iv, pv, tv, o1, o2, r1, r2, fi, F1, F2, τ, rfl, rfl, hXI, hKI, hC22⟩ := hCX
  obtain ⟨am, zw, σ, rfl, rfl, hRI, hAT, hR1⟩ := hRX
  obtain ⟨ht, hd, hg, hPG, hop, hB49, hB62, hB63, hB25, hB64, hB65, hB26, hB35, hB80, hB50, hB51, hB52, hB53, hB45, hB46, hB55, hB56, hB57, hB58, hB75, hB76⟩ := id hRI
  refine lv_aload_n hx hb dL_law_488 rfl (lv_at hl 2 rfl) ?_
  refine lv_aload_n hx hb dL_law_489 rfl (lv_at hl 3 rfl) ?_
  refine lv_iload_n hx hb dL_law_490 rfl (lv_at hl 0 rfl) ?_
  refine lv_iconst (v := 1) hx hb dL_law_491 (by decide) ?_
  refine lv_iadd hx hb dL_law_492 ?_
  refine va_sld hx hb hX hbl hbA hS (x_ix (i := i) (k := 1) hi0 hi1 hL (by decide) (by decide)) dL_law_493 ?_
  suffices go : ∀ r9 : Int32, W p l e room_1 s m #[Value.ref b] below meth c H locs 135 68060 (lw_Z below #[Value.ref b] s) (F0 m 502 ls [.int r9, .ref (ad 0)]) by
    refine lv_if_eq (tgt := 501) hx hb dL_law_494 (by decide) (fun c9 => ?_) (fun c9 => ?_)
    · refine lv_iconst (v := 0) hx hb dL_law_501 (by decide) ?_
      exact go 0
    · refine lv_iconst (v := 1) hx hb dL_law_497 (by decide) ?_
      refine lv_goto (tgt := 502) hx hb dL_law_498 (by decide) ?_
      exact go 1
  intro b494
  refine x_calllA (X := (xwd y ad iv pv tv (KL y (ad 190) o1 o2 r1 r2 fi F1 F2) τ)) (pl := mwd y am zw σ) (w1 := fun (u : OS) => xwd y ad iv pv tv (KL y (ad 190) o1 o2 r1 r2 fi F1 F2) u) (va_runV (As := [.int b494]) (rest := []) ⟨hx, hb, hml, hown, hts⟩ (x_m_near l D y H.size ad iv pv tv (KL y (ad 190) o1 o2 r1 r2 fi F1 F2) τ b494 hXI) (cwV 1 hts gl_24 rfl rfl rfl (by decide +kernel) ⟨Nat.le_of_ble_eq_true rfl, Nat.le_of_ble_eq_true rfl⟩) (x_preV (q := (RX11, TX11, 11)) hK (x_lP hP) (x_lD hD) (ci := 10) (q0 := 0) rfl rfl) rfl rfl hl.1 rfl (lv_room (Nat.le_of_ble_eq_true rfl)) dL_law_502 ⟨Nat.le_of_ble_eq_true rfl, Nat.le_of_ble_eq_true rfl⟩) hP hD hS hA (fun z1 u1 H locs hw1 hP hD hS => ?_)
  have hCX2 : CX y (ad 0) t (xwd y ad iv pv tv (KL y (ad 190) o1 o2 r1 r2 fi F1 F2) u1) := ⟨ad, iv, pv, tv, o1, o2, r1, r2, fi, F1, F2, u1, rfl, rfl, hw1.1, hKI, (congrArg Int32.toInt hw1.2).trans hC22⟩
  refine lv_pop2_2 hx hb dL_law_505 rfl ?_
  refine lv_aload_n hx hb dL_law_506 rfl (lv_at hl 1 rfl) ?_
  refine lv_aload_n hx hb dL_law_507 rfl (lv_at hl 3 rfl) ?_
  refine lv_iload_n hx hb dL_law_508 rfl (lv_at hl 0 rfl) ?_
  refine lv_iconst (v := 1) hx hb dL_law_509 (by decide) ?_
  refine lv_iadd hx hb dL_law_510 ?_
  refine va_sld hx hb hX hbl hbA hS (x_ix (i := i) (k := 1) hi0 hi1 hL (by decide) (by decide)) dL_law_511 ?_
  suffices go : ∀ r9 : Int32, W p l e room_1 s m #[Value.ref b] below meth c H locs 135 68060 (lw_Z below #[Value.ref b] s) (F0 m 520 ls [.int r9, .ref (am 1)]) by
    refine lv_if_eq (tgt := 519) hx hb dL_law_512 (by decide) (fun c9 => ?_) (fun c9 => ?_)
    · refine lv_iconst (v := 0) hx hb dL_law_519 (by decide) ?_
      exact go 0
    · refine lv_iconst (v := 1) hx hb dL_law_515 (by decide) ?_
      refine lv_goto (tgt := 520) hx hb dL_law_516 (by decide) ?_
      exact go 1
  intro b512
  refine x_calllB (X := mwd y am zw σ) (pl := (xwd y ad iv pv tv (KL y (ad 190) o1 o2 r1 r2 fi F1 F2) u1)) (w1 := fun (u : Unit) => mwd y am zw σ) (va_runV (As := [.int b512]) (rest := []) ⟨hx, hb, hml, hown, hts⟩ (q_near l D y H.size am zw σ b512) (cwV 1 hts gl_25 rfl rfl rfl (by decide +kernel) ⟨Nat.le_of_ble_eq_true rfl, Nat.le_of_ble_eq_true rfl⟩) (x_preV (q := (RX12, TX12, 85)) hK (x_rP hP) (x_rD hD) (ci := 11) (q0 := 0) rfl rfl) rfl rfl hl.1 rfl (lv_room (Nat.le_of_ble_eq_true rfl)) dL_law_520 ⟨Nat.le_of_ble_eq_true rfl, Nat.le_of_ble_eq_true rfl⟩) hP hD hS hA (fun z2 u2 H locs hw2 hP hD hS => ?_)
  clear hw2
  have hRI2 : RI σ := ⟨ht, hd, hg, hPG, hop, hB49, hB62, hB63, hB25, hB64, hB65, hB26, hB35, hB80, hB50, hB51, hB52, hB53, hB45, hB46, hB55, hB56, hB57, hB58, hB75, hB76⟩
  have hRX2 : RX y (am 1) t (mwd y am zw σ) := ⟨am, zw, _, rfl, rfl, hRI2, hAT, hR1⟩
  refine lv_pop2_2 hx hb dL_law_523 rfl ?_
  refine lv_goto (tgt := 951) hx hb dL_law_524 (by decide) ?_
  exact kk _ _ _ _ _ _ hCX2 hRX2 hP hD hS hl
set_option maxHeartbeats 4000000 in
set_option maxRecDepth 100000 in
theorem law_case_13 {D : va_G} {y : Nat → ClassId} {p : Program} {e : Env} {s : State} {m : MethodId} {below : List Frame} {meth : Method} {c : Code} (l : Launch) {b L : Nat} {xs : Nat → Int32} {A : Nat → Prop} {H : Heap} {locs : List Loc} {ls : Array Slot} {h0 h1 : Nat} {t : Int} {X Y : va_W} {i : Int32} (C0 : lw_At p s m meth c b L xs) (hL : L ≤ 3072) (hAl : ∀ q, A q → s.heap.size ≤ q) (hbA : ¬ A b) (hA : ∀ q, s.heap.size ≤ q → A q) (hK : va_K D vwCl (xT y) s) (hi0 : 0 ≤ i.toInt) (hi1 : i.toInt + 6 ≤ (L : Int)) (hCX : CX y h0 t X) (hRX : RX y h1 t Y) (hP : va_P D vwCl (X ++ Y) H) (hD : va_D A (X ++ Y)) (hS : va_S A s.heap H locs) (hl : lv_has ls 4 [(3, .int i), (2, .ref h1), (1, .ref h0), (0, .ref b)]) (kk : ∀ (t : Int) (X Y : va_W) (H : Heap) (locs : List Loc) (ls : Array Slot), CX y h0 t X → RX y h1 t Y → va_P D vwCl (X ++ Y) H → va_D A (X ++ Y) → va_S A s.heap H locs → lv_has ls 4 [(3, .int i), (2, .ref h1), (1, .ref h0), (0, .ref b)] → W p l e room_1 s m #[Value.ref b] below meth c H locs 135 68060 (lw_Z below #[Value.ref b] s) (F0 m 951 ls [])) : W p l e room_1 s m #[Value.ref b] below meth c H locs 135 68060 (lw_Z below #[Value.ref b] s) (F0 m 527 ls []) := by
  obtain ⟨hx, hb, hr, hml, hown, hts, hX, hbl, hlocks, hgv⟩ := id C0
  have hown : s.vm.findClass RL = some m.cls := hown
  obtain ⟨ad, iv, pv, tv, o1, o2, r1, r2, fi, F1, F2, τ, rfl, rfl, hXI, hKI, hC22⟩ := hCX
  obtain ⟨am, zw, σ, rfl, rfl, hRI, hAT, hR1⟩ := hRX
  obtain ⟨ht, hd, hg, hPG, hop, hB49, hB62, hB63, hB25, hB64, hB65, hB26, hB35, hB80, hB50, hB51, hB52, hB53, hB45, hB46, hB55, hB56, hB57, hB58, hB75, hB76⟩ := id hRI
  refine lv_aload_n hx hb dL_law_527 rfl (lv_at hl 2 rfl) ?_
  refine lv_aload_n hx hb dL_law_528 rfl (lv_at hl 3 rfl) ?_
  refine lv_iload_n hx hb dL_law_529 rfl (lv_at hl 0 rfl) ?_
  refine lv_iconst (v := 1) hx hb dL_law_530 (by decide) ?_
  refine lv_iadd hx hb dL_law_531 ?_
  refine va_sld hx hb hX hbl hbA hS (x_ix (i := i) (k := 1) hi0 hi1 hL (by decide) (by decide)) dL_law_532 ?_
  refine lv_aload_n hx hb dL_law_533 rfl (lv_at hl 3 rfl) ?_
  refine lv_iload_n hx hb dL_law_534 rfl (lv_at hl 0 rfl) ?_
  refine lv_iconst (v := 2) hx hb dL_law_535 (by decide) ?_
  refine lv_iadd hx hb dL_law_536 ?_
  refine va_sld hx hb hX hbl hbA hS (x_ix (i := i) (k := 2) hi0 hi1 hL (by decide) (by decide)) dL_law_537 ?_
  refine lv_aload_n hx hb dL_law_538 rfl (lv_at hl 3 rfl) ?_
  refine lv_iload_n hx hb dL_law_539 rfl (lv_at hl 0 rfl) ?_
  refine lv_iconst (v := 3) hx hb dL_law_540 (by decide) ?_
  refine lv_iadd hx hb dL_law_541 ?_
  refine va_sld hx hb hX hbl hbA hS (x_ix (i := i) (k := 3) hi0 hi1 hL (by decide) (by decide)) dL_law_542 ?_
  suffices go : ∀ r9 : Int32, W p l e room_1 s m #[Value.ref b] below meth c H locs 135 68060 (lw_Z below #[Value.ref b] s) (F0 m 551 ls [.int r9, .int (xs (Int32.toNatClampNeg (i + 2))), .int (xs (Int32.toNatClampNeg (i + 1))), .ref (ad 0)]) by
    refine lv_if_eq (tgt := 550) hx hb dL_law_543 (by decide) (fun c9 => ?_) (fun c9 => ?_)
    · refine lv_iconst (v := 0) hx hb dL_law_550 (by decide) ?_
      exact go 0
    · refine lv_iconst (v := 1) hx hb dL_law_546 (by decide) ?_
      refine lv_goto (tgt := 551) hx hb dL_law_547 (by decide) ?_
      exact go 1
  intro b543
  refine x_calllA (X := (xwd y ad iv pv tv (KL y (ad 190) o1 o2 r1 r2 fi F1 F2) τ)) (pl := mwd y am zw σ) (w1 := fun (u : OS) => xwd y ad iv pv tv (KL y (ad 190) o1 o2 r1 r2 fi F1 F2) u) (va_runV (As := [.int (xs (Int32.toNatClampNeg (i + 1))), .int (xs (Int32.toNatClampNeg (i + 2))), .int b543]) (rest := []) ⟨hx, hb, hml, hown, hts⟩ (x_m_forward l D y H.size ad iv pv tv (KL y (ad 190) o1 o2 r1 r2 fi F1 F2) τ (xs (Int32.toNatClampNeg (i + 1))) (xs (Int32.toNatClampNeg (i + 2))) b543 hXI) (cwV 3 hts gl_26 rfl rfl rfl (by decide +kernel) ⟨Nat.le_of_ble_eq_true rfl, Nat.le_of_ble_eq_true rfl⟩) (x_preV (q := (RX11, TX11, 11)) hK (x_lP hP) (x_lD hD) (ci := 10) (q0 := 0) rfl rfl) rfl rfl hl.1 rfl (lv_room (Nat.le_of_ble_eq_true rfl)) dL_law_551 ⟨Nat.le_of_ble_eq_true rfl, Nat.le_of_ble_eq_true rfl⟩) hP hD hS hA (fun z1 u1 H locs hw1 hP hD hS => ?_)
  have hCX2 : CX y (ad 0) t (xwd y ad iv pv tv (KL y (ad 190) o1 o2 r1 r2 fi F1 F2) u1) := ⟨ad, iv, pv, tv, o1, o2, r1, r2, fi, F1, F2, u1, rfl, rfl, hw1.1, hKI, (congrArg Int32.toInt hw1.2).trans hC22⟩
  refine lv_pop2_2 hx hb dL_law_554 rfl ?_
  refine lv_aload_n hx hb dL_law_555 rfl (lv_at hl 1 rfl) ?_
  refine lv_aload_n hx hb dL_law_556 rfl (lv_at hl 3 rfl) ?_
  refine lv_iload_n hx hb dL_law_557 rfl (lv_at hl 0 rfl) ?_
  refine lv_iconst (v := 1) hx hb dL_law_558 (by decide) ?_
  refine lv_iadd hx hb dL_law_559 ?_
  refine va_sld hx hb hX hbl hbA hS (x_ix (i := i) (k := 1) hi0 hi1 hL (by decide) (by decide)) dL_law_560 ?_
  refine lv_aload_n hx hb dL_law_561 rfl (lv_at hl 3 rfl) ?_
  refine lv_iload_n hx hb dL_law_562 rfl (lv_at hl 0 rfl) ?_
  refine lv_iconst (v := 2) hx hb dL_law_563 (by decide) ?_
  refine lv_iadd hx hb dL_law_564 ?_
  refine va_sld hx hb hX hbl hbA hS (x_ix (i := i) (k := 2) hi0 hi1 hL (by decide) (by decide)) dL_law_565 ?_
  refine lv_aload_n hx hb dL_law_566 rfl (lv_at hl 3 rfl) ?_
  refine lv_iload_n hx hb dL_law_567 rfl (lv_at hl 0 rfl) ?_
  refine lv_iconst (v := 3) hx hb dL_law_568 (by decide) ?_
  refine lv_iadd hx hb dL_law_569 ?_
  refine va_sld hx hb hX hbl hbA hS (x_ix (i := i) (k := 3) hi0 hi1 hL (by decide) (by decide)) dL_law_570 ?_
  suffices go : ∀ r9 : Int32, W p l e room_1 s m #[Value.ref b] below meth c H locs 135 68060 (lw_Z below #[Value.ref b] s) (F0 m 579 ls [.int r9, .int (xs (Int32.toNatClampNeg (i + 2))), .int (xs (Int32.toNatClampNeg (i + 1))), .ref (am 1)]) by
    refine lv_if_eq (tgt := 578) hx hb dL_law_571 (by decide) (fun c9 => ?_) (fun c9 => ?_)
    · refine lv_iconst (v := 0) hx hb dL_law_578 (by decide) ?_
      exact go 0
    · refine lv_iconst (v := 1) hx hb dL_law_574 (by decide) ?_
      refine lv_goto (tgt := 579) hx hb dL_law_575 (by decide) ?_
      exact go 1
  intro b571
  refine x_calllB (X := mwd y am zw σ) (pl := (xwd y ad iv pv tv (KL y (ad 190) o1 o2 r1 r2 fi F1 F2) u1)) (w1 := fun (u : (Nat → Int32) × Int32 × Int64 × Int64 × (Nat → Int64) × (Nat → Int64)) => mwd y am zw (tJ (tJ (sJ (sJ (sI (tI σ 74 u.1) 44 u.2.1) 42 u.2.2.1) 43 u.2.2.2.1) 75 u.2.2.2.2.1) 76 u.2.2.2.2.2)) (va_runV (As := [.int (xs (Int32.toNatClampNeg (i + 1))), .int (xs (Int32.toNatClampNeg (i + 2))), .int b571]) (rest := []) ⟨hx, hb, hml, hown, hts⟩ (q_forward l D y H.size am zw σ (xs (Int32.toNatClampNeg (i + 1))) (xs (Int32.toNatClampNeg (i + 2))) b571 ⟨hPG.1, hPG.2.1⟩ hop hB75 hB76 hB57 hB58 hB62 hB65 hB64) (cwV 3 hts gl_27 rfl rfl rfl (by decide +kernel) ⟨Nat.le_of_ble_eq_true rfl, Nat.le_of_ble_eq_true rfl⟩) (x_preV (q := (RX12, TX12, 85)) hK (x_rP hP) (x_rD hD) (ci := 11) (q0 := 0) rfl rfl) rfl rfl hl.1 rfl (lv_room (Nat.le_of_ble_eq_true rfl)) dL_law_579 ⟨Nat.le_of_ble_eq_true rfl, Nat.le_of_ble_eq_true rfl⟩) hP hD hS hA (fun z2 u2 H locs hw2 hP hD hS => ?_)
  obtain ⟨k0, k1, k2⟩ := hw2
  have hRI2 : RI (tJ (tJ (sJ (sJ (sI (tI σ 74 u2.1) 44 u2.2.1) 42 u2.2.2.1) 43 u2.2.2.2.1) 75 u2.2.2.2.2.1) 76 u2.2.2.2.2.2) := ⟨ht, hd, hg, hPG, hop, hB49, hB62, hB63, hB25, hB64, hB65, hB26, hB35, hB80, hB50, hB51, hB52, hB53, hB45, hB46, hB55, hB56, hB57, hB58, k1, k2⟩
  have hRX2 : RX y (am 1) t (mwd y am zw (tJ (tJ (sJ (sJ (sI (tI σ 74 u2.1) 44 u2.2.1) 42 u2.2.2.1) 43 u2.2.2.2.1) 75 u2.2.2.2.2.1) 76 u2.2.2.2.2.2)) := ⟨am, zw, _, rfl, rfl, hRI2, hAT, hR1⟩
  refine lv_pop2_2 hx hb dL_law_582 rfl ?_
  refine lv_goto (tgt := 951) hx hb dL_law_583 (by decide) ?_
  exact kk _ _ _ _ _ _ hCX2 hRX2 hP hD hS hl
set_option maxHeartbeats 4000000 in
set_option maxRecDepth 100000 in
theorem law_case_14 {D : va_G} {y : Nat → ClassId} {p : Program} {e : Env} {s : State} {m : MethodId} {below : List Frame} {meth : Method} {c : Code} (l : Launch) {b L : Nat} {xs : Nat → Int32} {A : Nat → Prop} {H : Heap} {locs : List Loc} {ls : Array Slot} {h0 h1 : Nat} {t : Int} {X Y : va_W} {i : Int32} (C0 : lw_At p s m meth c b L xs) (hL : L ≤ 3072) (hAl : ∀ q, A q → s.heap.size ≤ q) (hbA : ¬ A b) (hA : ∀ q, s.heap.size ≤ q → A q) (hK : va_K D vwCl (xT y) s) (hi0 : 0 ≤ i.toInt) (hi1 : i.toInt + 6 ≤ (L : Int)) (hCX : CX y h0 t X) (hRX : RX y h1 t Y) (hP : va_P D vwCl (X ++ Y) H) (hD : va_D A (X ++ Y)) (hS : va_S A s.heap H locs) (hl : lv_has ls 4 [(3, .int i), (2, .ref h1), (1, .ref h0), (0, .ref b)]) (kk : ∀ (t : Int) (X Y : va_W) (H : Heap) (locs : List Loc) (ls : Array Slot), CX y h0 t X → RX y h1 t Y → va_P D vwCl (X ++ Y) H → va_D A (X ++ Y) → va_S A s.heap H locs → lv_has ls 4 [(3, .int i), (2, .ref h1), (1, .ref h0), (0, .ref b)] → W p l e room_1 s m #[Value.ref b] below meth c H locs 135 68060 (lw_Z below #[Value.ref b] s) (F0 m 951 ls [])) : W p l e room_1 s m #[Value.ref b] below meth c H locs 135 68060 (lw_Z below #[Value.ref b] s) (F0 m 586 ls []) := by
  obtain ⟨hx, hb, hr, hml, hown, hts, hX, hbl, hlocks, hgv⟩ := id C0
  have hown : s.vm.findClass RL = some m.cls := hown
  obtain ⟨ad, iv, pv, tv, o1, o2, r1, r2, fi, F1, F2, τ, rfl, rfl, hXI, hKI, hC22⟩ := hCX
  obtain ⟨am, zw, σ, rfl, rfl, hRI, hAT, hR1⟩ := hRX
  obtain ⟨ht, hd, hg, hPG, hop, hB49, hB62, hB63, hB25, hB64, hB65, hB26, hB35, hB80, hB50, hB51, hB52, hB53, hB45, hB46, hB55, hB56, hB57, hB58, hB75, hB76⟩ := id hRI
  refine lv_aload_n hx hb dL_law_586 rfl (lv_at hl 2 rfl) ?_
  refine lv_aload_n hx hb dL_law_587 rfl (lv_at hl 3 rfl) ?_
  refine lv_iload_n hx hb dL_law_588 rfl (lv_at hl 0 rfl) ?_
  refine lv_iconst (v := 1) hx hb dL_law_589 (by decide) ?_
  refine lv_iadd hx hb dL_law_590 ?_
  refine va_sld hx hb hX hbl hbA hS (x_ix (i := i) (k := 1) hi0 hi1 hL (by decide) (by decide)) dL_law_591 ?_
  refine lv_aload_n hx hb dL_law_592 rfl (lv_at hl 3 rfl) ?_
  refine lv_iload_n hx hb dL_law_593 rfl (lv_at hl 0 rfl) ?_
  refine lv_iconst (v := 2) hx hb dL_law_594 (by decide) ?_
  refine lv_iadd hx hb dL_law_595 ?_
  refine va_sld hx hb hX hbl hbA hS (x_ix (i := i) (k := 2) hi0 hi1 hL (by decide) (by decide)) dL_law_596 ?_
  refine lv_aload_n hx hb dL_law_597 rfl (lv_at hl 3 rfl) ?_
  refine lv_iload_n hx hb dL_law_598 rfl (lv_at hl 0 rfl) ?_
  refine lv_iconst (v := 3) hx hb dL_law_599 (by decide) ?_
  refine lv_iadd hx hb dL_law_600 ?_
  refine va_sld hx hb hX hbl hbA hS (x_ix (i := i) (k := 3) hi0 hi1 hL (by decide) (by decide)) dL_law_601 ?_
  suffices go : ∀ r9 : Int32, W p l e room_1 s m #[Value.ref b] below meth c H locs 135 68060 (lw_Z below #[Value.ref b] s) (F0 m 610 ls [.int r9, .int (xs (Int32.toNatClampNeg (i + 2))), .int (xs (Int32.toNatClampNeg (i + 1))), .ref (ad 0)]) by
    refine lv_if_eq (tgt := 609) hx hb dL_law_602 (by decide) (fun c9 => ?_) (fun c9 => ?_)
    · refine lv_iconst (v := 0) hx hb dL_law_609 (by decide) ?_
      exact go 0
    · refine lv_iconst (v := 1) hx hb dL_law_605 (by decide) ?_
      refine lv_goto (tgt := 610) hx hb dL_law_606 (by decide) ?_
      exact go 1
  intro b602
  refine x_calllA (X := (xwd y ad iv pv tv (KL y (ad 190) o1 o2 r1 r2 fi F1 F2) τ)) (pl := mwd y am zw σ) (w1 := fun (u : OS) => xwd y ad iv pv tv (KL y (ad 190) o1 o2 r1 r2 fi F1 F2) u) (va_runV (As := [.int (xs (Int32.toNatClampNeg (i + 1))), .int (xs (Int32.toNatClampNeg (i + 2))), .int b602]) (rest := []) ⟨hx, hb, hml, hown, hts⟩ (x_m_backward l D y H.size ad iv pv tv (KL y (ad 190) o1 o2 r1 r2 fi F1 F2) τ (xs (Int32.toNatClampNeg (i + 1))) (xs (Int32.toNatClampNeg (i + 2))) b602 hXI) (cwV 3 hts gl_28 rfl rfl rfl (by decide +kernel) ⟨Nat.le_of_ble_eq_true rfl, Nat.le_of_ble_eq_true rfl⟩) (x_preV (q := (RX11, TX11, 11)) hK (x_lP hP) (x_lD hD) (ci := 10) (q0 := 0) rfl rfl) rfl rfl hl.1 rfl (lv_room (Nat.le_of_ble_eq_true rfl)) dL_law_610 ⟨Nat.le_of_ble_eq_true rfl, Nat.le_of_ble_eq_true rfl⟩) hP hD hS hA (fun z1 u1 H locs hw1 hP hD hS => ?_)
  have hCX2 : CX y (ad 0) t (xwd y ad iv pv tv (KL y (ad 190) o1 o2 r1 r2 fi F1 F2) u1) := ⟨ad, iv, pv, tv, o1, o2, r1, r2, fi, F1, F2, u1, rfl, rfl, hw1.1, hKI, (congrArg Int32.toInt hw1.2).trans hC22⟩
  refine lv_pop2_2 hx hb dL_law_613 rfl ?_
  refine lv_aload_n hx hb dL_law_614 rfl (lv_at hl 1 rfl) ?_
  refine lv_aload_n hx hb dL_law_615 rfl (lv_at hl 3 rfl) ?_
  refine lv_iload_n hx hb dL_law_616 rfl (lv_at hl 0 rfl) ?_
  refine lv_iconst (v := 1) hx hb dL_law_617 (by decide) ?_
  refine lv_iadd hx hb dL_law_618 ?_
  refine va_sld hx hb hX hbl hbA hS (x_ix (i := i) (k := 1) hi0 hi1 hL (by decide) (by decide)) dL_law_619 ?_
  refine lv_aload_n hx hb dL_law_620 rfl (lv_at hl 3 rfl) ?_
  refine lv_iload_n hx hb dL_law_621 rfl (lv_at hl 0 rfl) ?_
  refine lv_iconst (v := 2) hx hb dL_law_622 (by decide) ?_
  refine lv_iadd hx hb dL_law_623 ?_
  refine va_sld hx hb hX hbl hbA hS (x_ix (i := i) (k := 2) hi0 hi1 hL (by decide) (by decide)) dL_law_624 ?_
  refine lv_aload_n hx hb dL_law_625 rfl (lv_at hl 3 rfl) ?_
  refine lv_iload_n hx hb dL_law_626 rfl (lv_at hl 0 rfl) ?_
  refine lv_iconst (v := 3) hx hb dL_law_627 (by decide) ?_
  refine lv_iadd hx hb dL_law_628 ?_
  refine va_sld hx hb hX hbl hbA hS (x_ix (i := i) (k := 3) hi0 hi1 hL (by decide) (by decide)) dL_law_629 ?_
  suffices go : ∀ r9 : Int32, W p l e room_1 s m #[Value.ref b] below meth c H locs 135 68060 (lw_Z below #[Value.ref b] s) (F0 m 638 ls [.int r9, .int (xs (Int32.toNatClampNeg (i + 2))), .int (xs (Int32.toNatClampNeg (i + 1))), .ref (am 1)]) by
    refine lv_if_eq (tgt := 637) hx hb dL_law_630 (by decide) (fun c9 => ?_) (fun c9 => ?_)
    · refine lv_iconst (v := 0) hx hb dL_law_637 (by decide) ?_
      exact go 0
    · refine lv_iconst (v := 1) hx hb dL_law_633 (by decide) ?_
      refine lv_goto (tgt := 638) hx hb dL_law_634 (by decide) ?_
      exact go 1
  intro b630
  refine x_calllB (X := mwd y am zw σ) (pl := (xwd y ad iv pv tv (KL y (ad 190) o1 o2 r1 r2 fi F1 F2) u1)) (w1 := fun (u : Int32 × Int64 × Int64 × (Nat → Int64) × (Nat → Int64)) => mwd y am zw (tJ (tJ (sJ (sJ (sI σ 44 u.1) 42 u.2.1) 43 u.2.2.1) 75 u.2.2.2.1) 76 u.2.2.2.2)) (va_runV (As := [.int (xs (Int32.toNatClampNeg (i + 1))), .int (xs (Int32.toNatClampNeg (i + 2))), .int b630]) (rest := []) ⟨hx, hb, hml, hown, hts⟩ (q_backward l D y H.size am zw σ (xs (Int32.toNatClampNeg (i + 1))) (xs (Int32.toNatClampNeg (i + 2))) b630 ⟨hPG.1, hPG.2.1⟩ hop hB75 hB76 hB57 hB58 hB62 hB65 hB64) (cwV 3 hts gl_29 rfl rfl rfl (by decide +kernel) ⟨Nat.le_of_ble_eq_true rfl, Nat.le_of_ble_eq_true rfl⟩) (x_preV (q := (RX12, TX12, 85)) hK (x_rP hP) (x_rD hD) (ci := 11) (q0 := 0) rfl rfl) rfl rfl hl.1 rfl (lv_room (Nat.le_of_ble_eq_true rfl)) dL_law_638 ⟨Nat.le_of_ble_eq_true rfl, Nat.le_of_ble_eq_true rfl⟩) hP hD hS hA (fun z2 u2 H locs hw2 hP hD hS => ?_)
  obtain ⟨k0, k1, k2⟩ := hw2
  have hRI2 : RI (tJ (tJ (sJ (sJ (sI σ 44 u2.1) 42 u2.2.1) 43 u2.2.2.1) 75 u2.2.2.2.1) 76 u2.2.2.2.2) := ⟨ht, hd, hg, hPG, hop, hB49, hB62, hB63, hB25, hB64, hB65, hB26, hB35, hB80, hB50, hB51, hB52, hB53, hB45, hB46, hB55, hB56, hB57, hB58, k1, k2⟩
  have hRX2 : RX y (am 1) t (mwd y am zw (tJ (tJ (sJ (sJ (sI σ 44 u2.1) 42 u2.2.1) 43 u2.2.2.1) 75 u2.2.2.2.1) 76 u2.2.2.2.2)) := ⟨am, zw, _, rfl, rfl, hRI2, hAT, hR1⟩
  refine lv_pop2_2 hx hb dL_law_641 rfl ?_
  refine lv_goto (tgt := 951) hx hb dL_law_642 (by decide) ?_
  exact kk _ _ _ _ _ _ hCX2 hRX2 hP hD hS hl
set_option maxHeartbeats 4000000 in
set_option maxRecDepth 100000 in
theorem law_case_15 {D : va_G} {y : Nat → ClassId} {p : Program} {e : Env} {s : State} {m : MethodId} {below : List Frame} {meth : Method} {c : Code} (l : Launch) {b L : Nat} {xs : Nat → Int32} {A : Nat → Prop} {H : Heap} {locs : List Loc} {ls : Array Slot} {h0 h1 : Nat} {t : Int} {X Y : va_W} {i : Int32} (C0 : lw_At p s m meth c b L xs) (hL : L ≤ 3072) (hAl : ∀ q, A q → s.heap.size ≤ q) (hbA : ¬ A b) (hA : ∀ q, s.heap.size ≤ q → A q) (hK : va_K D vwCl (xT y) s) (hi0 : 0 ≤ i.toInt) (hi1 : i.toInt + 6 ≤ (L : Int)) (hCX : CX y h0 t X) (hRX : RX y h1 t Y) (hP : va_P D vwCl (X ++ Y) H) (hD : va_D A (X ++ Y)) (hS : va_S A s.heap H locs) (hl : lv_has ls 4 [(3, .int i), (2, .ref h1), (1, .ref h0), (0, .ref b)]) (kk : ∀ (t : Int) (X Y : va_W) (H : Heap) (locs : List Loc) (ls : Array Slot), CX y h0 t X → RX y h1 t Y → va_P D vwCl (X ++ Y) H → va_D A (X ++ Y) → va_S A s.heap H locs → lv_has ls 4 [(3, .int i), (2, .ref h1), (1, .ref h0), (0, .ref b)] → W p l e room_1 s m #[Value.ref b] below meth c H locs 135 68060 (lw_Z below #[Value.ref b] s) (F0 m 951 ls [])) : W p l e room_1 s m #[Value.ref b] below meth c H locs 135 68060 (lw_Z below #[Value.ref b] s) (F0 m 645 ls []) := by
  obtain ⟨hx, hb, hr, hml, hown, hts, hX, hbl, hlocks, hgv⟩ := id C0
  have hown : s.vm.findClass RL = some m.cls := hown
  obtain ⟨ad, iv, pv, tv, o1, o2, r1, r2, fi, F1, F2, τ, rfl, rfl, hXI, hKI, hC22⟩ := hCX
  obtain ⟨am, zw, σ, rfl, rfl, hRI, hAT, hR1⟩ := hRX
  obtain ⟨ht, hd, hg, hPG, hop, hB49, hB62, hB63, hB25, hB64, hB65, hB26, hB35, hB80, hB50, hB51, hB52, hB53, hB45, hB46, hB55, hB56, hB57, hB58, hB75, hB76⟩ := id hRI
  refine lv_aload_n hx hb dL_law_645 rfl (lv_at hl 2 rfl) ?_
  refine lv_aload_n hx hb dL_law_646 rfl (lv_at hl 3 rfl) ?_
  refine lv_iload_n hx hb dL_law_647 rfl (lv_at hl 0 rfl) ?_
  refine lv_iconst (v := 1) hx hb dL_law_648 (by decide) ?_
  refine lv_iadd hx hb dL_law_649 ?_
  refine va_sld hx hb hX hbl hbA hS (x_ix (i := i) (k := 1) hi0 hi1 hL (by decide) (by decide)) dL_law_650 ?_
  refine lv_aload_n hx hb dL_law_651 rfl (lv_at hl 3 rfl) ?_
  refine lv_iload_n hx hb dL_law_652 rfl (lv_at hl 0 rfl) ?_
  refine lv_iconst (v := 2) hx hb dL_law_653 (by decide) ?_
  refine lv_iadd hx hb dL_law_654 ?_
  refine va_sld hx hb hX hbl hbA hS (x_ix (i := i) (k := 2) hi0 hi1 hL (by decide) (by decide)) dL_law_655 ?_
  refine lv_aload_n hx hb dL_law_656 rfl (lv_at hl 3 rfl) ?_
  refine lv_iload_n hx hb dL_law_657 rfl (lv_at hl 0 rfl) ?_
  refine lv_iconst (v := 3) hx hb dL_law_658 (by decide) ?_
  refine lv_iadd hx hb dL_law_659 ?_
  refine va_sld hx hb hX hbl hbA hS (x_ix (i := i) (k := 3) hi0 hi1 hL (by decide) (by decide)) dL_law_660 ?_
  refine lv_aload_n hx hb dL_law_661 rfl (lv_at hl 3 rfl) ?_
  refine lv_iload_n hx hb dL_law_662 rfl (lv_at hl 0 rfl) ?_
  refine lv_iconst (v := 4) hx hb dL_law_663 (by decide) ?_
  refine lv_iadd hx hb dL_law_664 ?_
  refine va_sld hx hb hX hbl hbA hS (x_ix (i := i) (k := 4) hi0 hi1 hL (by decide) (by decide)) dL_law_665 ?_
  suffices go : ∀ r9 : Int32, W p l e room_1 s m #[Value.ref b] below meth c H locs 135 68060 (lw_Z below #[Value.ref b] s) (F0 m 674 ls [.int r9, .int (xs (Int32.toNatClampNeg (i + 3))), .int (xs (Int32.toNatClampNeg (i + 2))), .int (xs (Int32.toNatClampNeg (i + 1))), .ref (ad 0)]) by
    refine lv_if_eq (tgt := 673) hx hb dL_law_666 (by decide) (fun c9 => ?_) (fun c9 => ?_)
    · refine lv_iconst (v := 0) hx hb dL_law_673 (by decide) ?_
      exact go 0
    · refine lv_iconst (v := 1) hx hb dL_law_669 (by decide) ?_
      refine lv_goto (tgt := 674) hx hb dL_law_670 (by decide) ?_
      exact go 1
  intro b666
  refine x_calllA (X := (xwd y ad iv pv tv (KL y (ad 190) o1 o2 r1 r2 fi F1 F2) τ)) (pl := mwd y am zw σ) (w1 := fun (u : OS) => xwd y ad iv pv tv (KL y (ad 190) o1 o2 r1 r2 fi F1 F2) u) (va_runV (As := [.int (xs (Int32.toNatClampNeg (i + 1))), .int (xs (Int32.toNatClampNeg (i + 2))), .int (xs (Int32.toNatClampNeg (i + 3))), .int b666]) (rest := []) ⟨hx, hb, hml, hown, hts⟩ (x_m_twice l D y H.size ad iv pv tv (KL y (ad 190) o1 o2 r1 r2 fi F1 F2) τ (xs (Int32.toNatClampNeg (i + 1))) (xs (Int32.toNatClampNeg (i + 2))) (xs (Int32.toNatClampNeg (i + 3))) b666 hXI) (cwV 4 hts gl_30 rfl rfl rfl (by decide +kernel) ⟨Nat.le_of_ble_eq_true rfl, Nat.le_of_ble_eq_true rfl⟩) (x_preV (q := (RX11, TX11, 11)) hK (x_lP hP) (x_lD hD) (ci := 10) (q0 := 0) rfl rfl) rfl rfl hl.1 rfl (lv_room (Nat.le_of_ble_eq_true rfl)) dL_law_674 ⟨Nat.le_of_ble_eq_true rfl, Nat.le_of_ble_eq_true rfl⟩) hP hD hS hA (fun z1 u1 H locs hw1 hP hD hS => ?_)
  have hCX2 : CX y (ad 0) t (xwd y ad iv pv tv (KL y (ad 190) o1 o2 r1 r2 fi F1 F2) u1) := ⟨ad, iv, pv, tv, o1, o2, r1, r2, fi, F1, F2, u1, rfl, rfl, hw1.1, hKI, (congrArg Int32.toInt hw1.2).trans hC22⟩
  refine lv_pop2_2 hx hb dL_law_677 rfl ?_
  refine lv_aload_n hx hb dL_law_678 rfl (lv_at hl 1 rfl) ?_
  refine lv_aload_n hx hb dL_law_679 rfl (lv_at hl 3 rfl) ?_
  refine lv_iload_n hx hb dL_law_680 rfl (lv_at hl 0 rfl) ?_
  refine lv_iconst (v := 1) hx hb dL_law_681 (by decide) ?_
  refine lv_iadd hx hb dL_law_682 ?_
  refine va_sld hx hb hX hbl hbA hS (x_ix (i := i) (k := 1) hi0 hi1 hL (by decide) (by decide)) dL_law_683 ?_
  refine lv_aload_n hx hb dL_law_684 rfl (lv_at hl 3 rfl) ?_
  refine lv_iload_n hx hb dL_law_685 rfl (lv_at hl 0 rfl) ?_
  refine lv_iconst (v := 2) hx hb dL_law_686 (by decide) ?_
  refine lv_iadd hx hb dL_law_687 ?_
  refine va_sld hx hb hX hbl hbA hS (x_ix (i := i) (k := 2) hi0 hi1 hL (by decide) (by decide)) dL_law_688 ?_
  refine lv_aload_n hx hb dL_law_689 rfl (lv_at hl 3 rfl) ?_
  refine lv_iload_n hx hb dL_law_690 rfl (lv_at hl 0 rfl) ?_
  refine lv_iconst (v := 3) hx hb dL_law_691 (by decide) ?_
  refine lv_iadd hx hb dL_law_692 ?_
  refine va_sld hx hb hX hbl hbA hS (x_ix (i := i) (k := 3) hi0 hi1 hL (by decide) (by decide)) dL_law_693 ?_
  refine lv_aload_n hx hb dL_law_694 rfl (lv_at hl 3 rfl) ?_
  refine lv_iload_n hx hb dL_law_695 rfl (lv_at hl 0 rfl) ?_
  refine lv_iconst (v := 4) hx hb dL_law_696 (by decide) ?_
  refine lv_iadd hx hb dL_law_697 ?_
  refine va_sld hx hb hX hbl hbA hS (x_ix (i := i) (k := 4) hi0 hi1 hL (by decide) (by decide)) dL_law_698 ?_
  suffices go : ∀ r9 : Int32, W p l e room_1 s m #[Value.ref b] below meth c H locs 135 68060 (lw_Z below #[Value.ref b] s) (F0 m 707 ls [.int r9, .int (xs (Int32.toNatClampNeg (i + 3))), .int (xs (Int32.toNatClampNeg (i + 2))), .int (xs (Int32.toNatClampNeg (i + 1))), .ref (am 1)]) by
    refine lv_if_eq (tgt := 706) hx hb dL_law_699 (by decide) (fun c9 => ?_) (fun c9 => ?_)
    · refine lv_iconst (v := 0) hx hb dL_law_706 (by decide) ?_
      exact go 0
    · refine lv_iconst (v := 1) hx hb dL_law_702 (by decide) ?_
      refine lv_goto (tgt := 707) hx hb dL_law_703 (by decide) ?_
      exact go 1
  intro b699
  refine x_calllB (X := mwd y am zw σ) (pl := (xwd y ad iv pv tv (KL y (ad 190) o1 o2 r1 r2 fi F1 F2) u1)) (w1 := fun (u : (Nat → Int32) × Int32 × Int64 × Int64 × (Nat → Int64) × (Nat → Int64)) => mwd y am zw (tJ (tJ (sJ (sJ (sI (tI σ 74 u.1) 44 u.2.1) 42 u.2.2.1) 43 u.2.2.2.1) 75 u.2.2.2.2.1) 76 u.2.2.2.2.2)) (va_runV (As := [.int (xs (Int32.toNatClampNeg (i + 1))), .int (xs (Int32.toNatClampNeg (i + 2))), .int (xs (Int32.toNatClampNeg (i + 3))), .int b699]) (rest := []) ⟨hx, hb, hml, hown, hts⟩ (q_twice l D y H.size am zw σ (xs (Int32.toNatClampNeg (i + 1))) (xs (Int32.toNatClampNeg (i + 2))) (xs (Int32.toNatClampNeg (i + 3))) b699 ⟨hPG.1, hPG.2.1⟩ hop hB75 hB76 hB57 hB58 hB62 hB65 hB64) (cwV 4 hts gl_31 rfl rfl rfl (by decide +kernel) ⟨Nat.le_of_ble_eq_true rfl, Nat.le_of_ble_eq_true rfl⟩) (x_preV (q := (RX12, TX12, 85)) hK (x_rP hP) (x_rD hD) (ci := 11) (q0 := 0) rfl rfl) rfl rfl hl.1 rfl (lv_room (Nat.le_of_ble_eq_true rfl)) dL_law_707 ⟨Nat.le_of_ble_eq_true rfl, Nat.le_of_ble_eq_true rfl⟩) hP hD hS hA (fun z2 u2 H locs hw2 hP hD hS => ?_)
  obtain ⟨k0, k1, k2⟩ := hw2
  have hRI2 : RI (tJ (tJ (sJ (sJ (sI (tI σ 74 u2.1) 44 u2.2.1) 42 u2.2.2.1) 43 u2.2.2.2.1) 75 u2.2.2.2.2.1) 76 u2.2.2.2.2.2) := ⟨ht, hd, hg, hPG, hop, hB49, hB62, hB63, hB25, hB64, hB65, hB26, hB35, hB80, hB50, hB51, hB52, hB53, hB45, hB46, hB55, hB56, hB57, hB58, k1, k2⟩
  have hRX2 : RX y (am 1) t (mwd y am zw (tJ (tJ (sJ (sJ (sI (tI σ 74 u2.1) 44 u2.2.1) 42 u2.2.2.1) 43 u2.2.2.2.1) 75 u2.2.2.2.2.1) 76 u2.2.2.2.2.2)) := ⟨am, zw, _, rfl, rfl, hRI2, hAT, hR1⟩
  refine lv_pop2_2 hx hb dL_law_710 rfl ?_
  refine lv_goto (tgt := 951) hx hb dL_law_711 (by decide) ?_
  exact kk _ _ _ _ _ _ hCX2 hRX2 hP hD hS hl
