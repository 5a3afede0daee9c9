set_option maxHeartbeats 4000000 in
set_option maxRecDepth 100000 in
theorem law_case_0 {D : va_G} {y : Nat → ClassId} {p : Program} {e : Env} {s : State} {m : MethodId} {below : List Frame} {meth : Method} {c : Code} (l : Launch) {b L : Nat} {xs : Nat → Int32} {A : Nat → Prop} {H : Heap} {locs : List Loc} {ls : Array Slot} {h0 h1 : Nat} {t : Int} {X Y : va_W} {i : Int32} (C0 : lw_At p s m meth c b L xs) (hL : L ≤ 3072) (hAl : ∀ q, A q → s.heap.size ≤ q) (hbA : ¬ A b) (hA : ∀ q, s.heap.size ≤ q → A q) (hK : va_K D vwCl (xT y) s) (hi0 : 0 ≤ i.toInt) (hi1 : i.toInt + 6 ≤ (L : Int)) (hCX : CX y h0 t X) (hRX : RX y h1 t Y) (hP : va_P D vwCl (X ++ Y) H) (hD : va_D A (X ++ Y)) (hS : va_S A s.heap H locs) (hl : lv_has ls 4 [(3, .int i), (2, .ref h1), (1, .ref h0), (0, .ref b)]) (kk : ∀ (t : Int) (X Y : va_W) (H : Heap) (locs : List Loc) (ls : Array Slot), CX y h0 t X → RX y h1 t Y → va_P D vwCl (X ++ Y) H → va_D A (X ++ Y) → va_S A s.heap H locs → lv_has ls 4 [(3, .int i), (2, .ref h1), (1, .ref h0), (0, .ref b)] → W p l e room_1 s m #[Value.ref b] below meth c H locs 135 68060 (lw_Z below #[Value.ref b] s) (F0 m 951 ls [])) : W p l e room_1 s m #[Value.ref b] below meth c H locs 135 68060 (lw_Z below #[Value.ref b] s) (F0 m 140 ls []) := by
  obtain ⟨hx, hb, hr, hml, hown, hts, hX, hbl, hlocks, hgv⟩ := id C0
  have hown : s.vm.findClass RL = some m.cls := hown
  obtain ⟨ad, iv, pv, tv, o1, o2, r1, r2, fi, F1, F2, τ, rfl, rfl, hXI, hKI, hC22⟩ := hCX
  obtain ⟨am, zw, σ, rfl, rfl, hRI, hAT, hR1⟩ := hRX
  obtain ⟨ht, hd, hg, hPG, hop, hB49, hB62, hB63, hB25, hB64, hB65, hB26, hB35, hB80, hB50, hB51, hB52, hB53, hB45, hB46, hB55, hB56, hB57, hB58, hB75, hB76⟩ := id hRI
  refine lv_aload_n hx hb dL_law_140 rfl (lv_at hl 2 rfl) ?_
  refine lv_aload_n hx hb dL_law_141 rfl (lv_at hl 3 rfl) ?_
  refine lv_iload_n hx hb dL_law_142 rfl (lv_at hl 0 rfl) ?_
  refine lv_iconst (v := 1) hx hb dL_law_143 (by decide) ?_
  refine lv_iadd hx hb dL_law_144 ?_
  refine va_sld hx hb hX hbl hbA hS (x_ix (i := i) (k := 1) hi0 hi1 hL (by decide) (by decide)) dL_law_145 ?_
  refine lv_aload_n hx hb dL_law_146 rfl (lv_at hl 3 rfl) ?_
  refine lv_iload_n hx hb dL_law_147 rfl (lv_at hl 0 rfl) ?_
  refine lv_iconst (v := 2) hx hb dL_law_148 (by decide) ?_
  refine lv_iadd hx hb dL_law_149 ?_
  refine va_sld hx hb hX hbl hbA hS (x_ix (i := i) (k := 2) hi0 hi1 hL (by decide) (by decide)) dL_law_150 ?_
  refine lv_aload_n hx hb dL_law_151 rfl (lv_at hl 3 rfl) ?_
  refine lv_iload_n hx hb dL_law_152 rfl (lv_at hl 0 rfl) ?_
  refine lv_iconst (v := 3) hx hb dL_law_153 (by decide) ?_
  refine lv_iadd hx hb dL_law_154 ?_
  refine va_sld hx hb hX hbl hbA hS (x_ix (i := i) (k := 3) hi0 hi1 hL (by decide) (by decide)) dL_law_155 ?_
  refine lv_aload_n hx hb dL_law_156 rfl (lv_at hl 3 rfl) ?_
  refine lv_iload_n hx hb dL_law_157 rfl (lv_at hl 0 rfl) ?_
  refine lv_iconst (v := 4) hx hb dL_law_158 (by decide) ?_
  refine lv_iadd hx hb dL_law_159 ?_
  refine va_sld hx hb hX hbl hbA hS (x_ix (i := i) (k := 4) hi0 hi1 hL (by decide) (by decide)) dL_law_160 ?_
  refine lv_aload_n hx hb dL_law_161 rfl (lv_at hl 3 rfl) ?_
  refine lv_iload_n hx hb dL_law_162 rfl (lv_at hl 0 rfl) ?_
  refine lv_iconst (v := 5) hx hb dL_law_163 (by decide) ?_
  refine lv_iadd hx hb dL_law_164 ?_
  refine va_sld hx hb hX hbl hbA hS (x_ix (i := i) (k := 5) hi0 hi1 hL (by decide) (by decide)) dL_law_165 ?_
  refine x_calliA (X := (xwd y ad iv pv tv (KL y (ad 190) o1 o2 r1 r2 fi F1 F2) τ)) (pl := mwd y am zw σ) (w1 := fun (u : OS) => xwd y ad iv pv tv (KL y (ad 190) o1 o2 r1 r2 fi F1 F2) u) (va_runV (As := [.int (xs (Int32.toNatClampNeg (i + 1))), .int (xs (Int32.toNatClampNeg (i + 2))), .int (xs (Int32.toNatClampNeg (i + 3))), .int (xs (Int32.toNatClampNeg (i + 4))), .int (xs (Int32.toNatClampNeg (i + 5)))]) (rest := []) ⟨hx, hb, hml, hown, hts⟩ (x_m_feed l D y H.size ad iv pv tv (KL y (ad 190) o1 o2 r1 r2 fi F1 F2) τ (xs (Int32.toNatClampNeg (i + 1))) (xs (Int32.toNatClampNeg (i + 2))) (xs (Int32.toNatClampNeg (i + 3))) (xs (Int32.toNatClampNeg (i + 4))) (xs (Int32.toNatClampNeg (i + 5))) hXI) (cwV 5 hts gl_0 rfl rfl rfl (by decide +kernel) ⟨Nat.le_of_ble_eq_true rfl, Nat.le_of_ble_eq_true rfl⟩) (x_preV (q := (RX11, TX11, 11)) hK (x_lP hP) (x_lD hD) (ci := 10) (q0 := 0) rfl rfl) rfl rfl hl.1 rfl (lv_room (Nat.le_of_ble_eq_true rfl)) dL_law_166 ⟨Nat.le_of_ble_eq_true rfl, Nat.le_of_ble_eq_true rfl⟩) hP hD hS hA (fun z1 u1 H locs hw1 hP hD hS => ?_)
  have hCX2 : CX y (ad 0) ((u1.1 22).toInt) (xwd y ad iv pv tv (KL y (ad 190) o1 o2 r1 r2 fi F1 F2) u1) := ⟨ad, iv, pv, tv, o1, o2, r1, r2, fi, F1, F2, u1, rfl, rfl, hw1.1, hKI, rfl⟩
  refine lv_pop hx hb dL_law_169 rfl ?_
  refine lv_aload_n hx hb dL_law_170 rfl (lv_at hl 1 rfl) ?_
  refine lv_aload_n hx hb dL_law_171 rfl (lv_at hl 3 rfl) ?_
  refine lv_iload_n hx hb dL_law_172 rfl (lv_at hl 0 rfl) ?_
  refine lv_iconst (v := 1) hx hb dL_law_173 (by decide) ?_
  refine lv_iadd hx hb dL_law_174 ?_
  refine va_sld hx hb hX hbl hbA hS (x_ix (i := i) (k := 1) hi0 hi1 hL (by decide) (by decide)) dL_law_175 ?_
  refine lv_aload_n hx hb dL_law_176 rfl (lv_at hl 3 rfl) ?_
  refine lv_iload_n hx hb dL_law_177 rfl (lv_at hl 0 rfl) ?_
  refine lv_iconst (v := 2) hx hb dL_law_178 (by decide) ?_
  refine lv_iadd hx hb dL_law_179 ?_
  refine va_sld hx hb hX hbl hbA hS (x_ix (i := i) (k := 2) hi0 hi1 hL (by decide) (by decide)) dL_law_180 ?_
  refine lv_aload_n hx hb dL_law_181 rfl (lv_at hl 3 rfl) ?_
  refine lv_iload_n hx hb dL_law_182 rfl (lv_at hl 0 rfl) ?_
  refine lv_iconst (v := 3) hx hb dL_law_183 (by decide) ?_
  refine lv_iadd hx hb dL_law_184 ?_
  refine va_sld hx hb hX hbl hbA hS (x_ix (i := i) (k := 3) hi0 hi1 hL (by decide) (by decide)) dL_law_185 ?_
  refine lv_aload_n hx hb dL_law_186 rfl (lv_at hl 3 rfl) ?_
  refine lv_iload_n hx hb dL_law_187 rfl (lv_at hl 0 rfl) ?_
  refine lv_iconst (v := 4) hx hb dL_law_188 (by decide) ?_
  refine lv_iadd hx hb dL_law_189 ?_
  refine va_sld hx hb hX hbl hbA hS (x_ix (i := i) (k := 4) hi0 hi1 hL (by decide) (by decide)) dL_law_190 ?_
  refine lv_aload_n hx hb dL_law_191 rfl (lv_at hl 3 rfl) ?_
  refine lv_iload_n hx hb dL_law_192 rfl (lv_at hl 0 rfl) ?_
  refine lv_iconst (v := 5) hx hb dL_law_193 (by decide) ?_
  refine lv_iadd hx hb dL_law_194 ?_
  refine va_sld hx hb hX hbl hbA hS (x_ix (i := i) (k := 5) hi0 hi1 hL (by decide) (by decide)) dL_law_195 ?_
  refine x_calliB (X := mwd y am zw σ) (pl := (xwd y ad iv pv tv (KL y (ad 190) o1 o2 r1 r2 fi F1 F2) u1)) (w1 := fun (u : Int32 × (Nat → Int32)) => mwd y am zw (tI (sI σ 1 u.1) 0 u.2)) (va_runV (As := [.int (xs (Int32.toNatClampNeg (i + 1))), .int (xs (Int32.toNatClampNeg (i + 2))), .int (xs (Int32.toNatClampNeg (i + 3))), .int (xs (Int32.toNatClampNeg (i + 4))), .int (xs (Int32.toNatClampNeg (i + 5)))]) (rest := []) ⟨hx, hb, hml, hown, hts⟩ (q_feed l D y H.size am zw σ (xs (Int32.toNatClampNeg (i + 1))) (xs (Int32.toNatClampNeg (i + 2))) (xs (Int32.toNatClampNeg (i + 3))) (xs (Int32.toNatClampNeg (i + 4))) (xs (Int32.toNatClampNeg (i + 5))) ht.1 ht.2) (cwV 5 hts gl_1 rfl rfl rfl (by decide +kernel) ⟨Nat.le_of_ble_eq_true rfl, Nat.le_of_ble_eq_true rfl⟩) (x_preV (q := (RX12, TX12, 85)) hK (x_rP hP) (x_rD hD) (ci := 11) (q0 := 0) rfl rfl) rfl rfl hl.1 rfl (lv_room (Nat.le_of_ble_eq_true rfl)) dL_law_196 ⟨Nat.le_of_ble_eq_true rfl, Nat.le_of_ble_eq_true rfl⟩) hP hD hS hA (fun z2 u2 H locs hw2 hP hD hS => ?_)
  have hX1 := hw1.1.1
  have hX2 := hw1.1.2.1
  have hT : u2.1.toInt = (u1.1 22).toInt := by
    rcases hw1.2 with ⟨_, g1, e1⟩ | ⟨g1, _, e1⟩ <;> rcases hw2 with ⟨g2, _, e2⟩ | ⟨g2, _, e2⟩ <;> first | omega | (rw [e2]; omega)
  have hT2 : 0 ≤ u2.1.toInt ∧ u2.1.toInt ≤ 700 := by omega
  have hRI2 : RI (tI (sI σ 1 u2.1) 0 u2.2) := ⟨hT2, hd, hg, hPG, hop, hB49, hB62, hB63, hB25, hB64, hB65, hB26, hB35, hB80, hB50, hB51, hB52, hB53, hB45, hB46, hB55, hB56, hB57, hB58, hB75, hB76⟩
  have hRX2 : RX y (am 1) ((u1.1 22).toInt) (mwd y am zw (tI (sI σ 1 u2.1) 0 u2.2)) := ⟨am, zw, _, rfl, rfl, hRI2, hAT, hT⟩
  refine lv_pop hx hb dL_law_199 rfl ?_
  refine lv_goto (tgt := 951) hx hb dL_law_200 (by decide) ?_
  exact kk _ _ _ _ _ _ hCX2 hRX2 hP hD hS hl
set_option maxHeartbeats 4000000 in
set_option maxRecDepth 100000 in
theorem law_case_1 {D : va_G} {y : Nat → ClassId} {p : Program} {e : Env} {s : State} {m : MethodId} {below : List Frame} {meth : Method} {c : Code} (l : Launch) {b L : Nat} {xs : Nat → Int32} {A : Nat → Prop} {H : Heap} {locs : List Loc} {ls : Array Slot} {h0 h1 : Nat} {t : Int} {X Y : va_W} {i : Int32} (C0 : lw_At p s m meth c b L xs) (hL : L ≤ 3072) (hAl : ∀ q, A q → s.heap.size ≤ q) (hbA : ¬ A b) (hA : ∀ q, s.heap.size ≤ q → A q) (hK : va_K D vwCl (xT y) s) (hi0 : 0 ≤ i.toInt) (hi1 : i.toInt + 6 ≤ (L : Int)) (hCX : CX y h0 t X) (hRX : RX y h1 t Y) (hP : va_P D vwCl (X ++ Y) H) (hD : va_D A (X ++ Y)) (hS : va_S A s.heap H locs) (hl : lv_has ls 4 [(3, .int i), (2, .ref h1), (1, .ref h0), (0, .ref b)]) (kk : ∀ (t : Int) (X Y : va_W) (H : Heap) (locs : List Loc) (ls : Array Slot), CX y h0 t X → RX y h1 t Y → va_P D vwCl (X ++ Y) H → va_D A (X ++ Y) → va_S A s.heap H locs → lv_has ls 4 [(3, .int i), (2, .ref h1), (1, .ref h0), (0, .ref b)] → W p l e room_1 s m #[Value.ref b] below meth c H locs 135 68060 (lw_Z below #[Value.ref b] s) (F0 m 951 ls [])) : W p l e room_1 s m #[Value.ref b] below meth c H locs 135 68060 (lw_Z below #[Value.ref b] s) (F0 m 203 ls []) := by
  obtain ⟨hx, hb, hr, hml, hown, hts, hX, hbl, hlocks, hgv⟩ := id C0
  have hown : s.vm.findClass RL = some m.cls := hown
  obtain ⟨ad, iv, pv, tv, o1, o2, r1, r2, fi, F1, F2, τ, rfl, rfl, hXI, hKI, hC22⟩ := hCX
  obtain ⟨am, zw, σ, rfl, rfl, hRI, hAT, hR1⟩ := hRX
  obtain ⟨ht, hd, hg, hPG, hop, hB49, hB62, hB63, hB25, hB64, hB65, hB26, hB35, hB80, hB50, hB51, hB52, hB53, hB45, hB46, hB55, hB56, hB57, hB58, hB75, hB76⟩ := id hRI
  refine lv_aload_n hx hb dL_law_203 rfl (lv_at hl 2 rfl) ?_
  refine lv_aload_n hx hb dL_law_204 rfl (lv_at hl 3 rfl) ?_
  refine lv_iload_n hx hb dL_law_205 rfl (lv_at hl 0 rfl) ?_
  refine lv_iconst (v := 1) hx hb dL_law_206 (by decide) ?_
  refine lv_iadd hx hb dL_law_207 ?_
  refine va_sld hx hb hX hbl hbA hS (x_ix (i := i) (k := 1) hi0 hi1 hL (by decide) (by decide)) dL_law_208 ?_
  refine x_calliA (X := (xwd y ad iv pv tv (KL y (ad 190) o1 o2 r1 r2 fi F1 F2) τ)) (pl := mwd y am zw σ) (w1 := fun (u : OS) => xwd y ad iv pv tv (KL y (ad 190) o1 o2 r1 r2 fi F1 F2) u) (va_runV (As := [.int (xs (Int32.toNatClampNeg (i + 1)))]) (rest := []) ⟨hx, hb, hml, hown, hts⟩ (x_m_end l D y H.size ad iv pv tv (KL y (ad 190) o1 o2 r1 r2 fi F1 F2) τ (xs (Int32.toNatClampNeg (i + 1))) hXI) (cwV 1 hts gl_2 rfl rfl rfl (by decide +kernel) ⟨Nat.le_of_ble_eq_true rfl, Nat.le_of_ble_eq_true rfl⟩) (x_preV (q := (RX11, TX11, 11)) hK (x_lP hP) (x_lD hD) (ci := 10) (q0 := 0) rfl rfl) rfl rfl hl.1 rfl (lv_room (Nat.le_of_ble_eq_true rfl)) dL_law_209 ⟨Nat.le_of_ble_eq_true rfl, Nat.le_of_ble_eq_true rfl⟩) hP hD hS hA (fun z1 u1 H locs hw1 hP hD hS => ?_)
  have hCX2 : CX y (ad 0) ((u1.1 22).toInt) (xwd y ad iv pv tv (KL y (ad 190) o1 o2 r1 r2 fi F1 F2) u1) := ⟨ad, iv, pv, tv, o1, o2, r1, r2, fi, F1, F2, u1, rfl, rfl, hw1.1, hKI, rfl⟩
  refine lv_pop hx hb dL_law_212 rfl ?_
  refine lv_aload_n hx hb dL_law_213 rfl (lv_at hl 1 rfl) ?_
  refine lv_aload_n hx hb dL_law_214 rfl (lv_at hl 3 rfl) ?_
  refine lv_iload_n hx hb dL_law_215 rfl (lv_at hl 0 rfl) ?_
  refine lv_iconst (v := 1) hx hb dL_law_216 (by decide) ?_
  refine lv_iadd hx hb dL_law_217 ?_
  refine va_sld hx hb hX hbl hbA hS (x_ix (i := i) (k := 1) hi0 hi1 hL (by decide) (by decide)) dL_law_218 ?_
  refine x_calliB (X := mwd y am zw σ) (pl := (xwd y ad iv pv tv (KL y (ad 190) o1 o2 r1 r2 fi F1 F2) u1)) (w1 := fun (u : Int32) => mwd y am zw (sI σ 1 u)) (va_runV (As := [.int (xs (Int32.toNatClampNeg (i + 1)))]) (rest := []) ⟨hx, hb, hml, hown, hts⟩ (q_end l D y H.size am zw σ (xs (Int32.toNatClampNeg (i + 1)))) (cwV 1 hts gl_3 rfl rfl rfl (by decide +kernel) ⟨Nat.le_of_ble_eq_true rfl, Nat.le_of_ble_eq_true rfl⟩) (x_preV (q := (RX12, TX12, 85)) hK (x_rP hP) (x_rD hD) (ci := 11) (q0 := 0) rfl rfl) rfl rfl hl.1 rfl (lv_room (Nat.le_of_ble_eq_true rfl)) dL_law_219 ⟨Nat.le_of_ble_eq_true rfl, Nat.le_of_ble_eq_true rfl⟩) hP hD hS hA (fun z2 u2 H locs hw2 hP hD hS => ?_)
  have hX1 := hw1.1.1
  have hX2 := hw1.1.2.1
  have hT : u2.toInt = (u1.1 22).toInt := by
    rcases hw1.2 with ⟨_, g1, e1⟩ | ⟨_, g1, g2, e1⟩ <;> rcases hw2 with ⟨_, g3, g4, e2⟩ | ⟨_, g3, e2⟩ <;> first | (rw [e2]; omega) | omega
  have hT2 : 0 ≤ u2.toInt ∧ u2.toInt ≤ 700 := by omega
  have hE : z1 = z2 := by
    rw [x_eq]
    have q0 : (0 : Int32).toInt = 0 := rfl
    have q1 : (1 : Int32).toInt = 1 := rfl
    rcases hw1.2 with ⟨f1, g1, e1⟩ | ⟨f1, g1, g2, e1⟩ <;> rcases hw2 with ⟨f2, g3, g4, e2⟩ | ⟨f2, g3, e2⟩ <;> first | (rw [f2]; omega) | omega
  have hRI2 : RI (sI σ 1 u2) := ⟨hT2, hd, hg, hPG, hop, hB49, hB62, hB63, hB25, hB64, hB65, hB26, hB35, hB80, hB50, hB51, hB52, hB53, hB45, hB46, hB55, hB56, hB57, hB58, hB75, hB76⟩
  have hRX2 : RX y (am 1) ((u1.1 22).toInt) (mwd y am zw (sI σ 1 u2)) := ⟨am, zw, _, rfl, rfl, hRI2, hAT, hT⟩
  refine lv_pop hx hb dL_law_222 rfl ?_
  refine lv_goto (tgt := 951) hx hb dL_law_223 (by decide) ?_
  exact kk _ _ _ _ _ _ hCX2 hRX2 hP hD hS hl
set_option maxHeartbeats 4000000 in
set_option maxRecDepth 100000 in
theorem law_case_2 {D : va_G} {y : Nat → ClassId} {p : Program} {e : Env} {s : State} {m : MethodId} {below : List Frame} {meth : Method} {c : Code} (l : Launch) {b L : Nat} {xs : Nat → Int32} {A : Nat → Prop} {H : Heap} {locs : List Loc} {ls : Array Slot} {h0 h1 : Nat} {t : Int} {X Y : va_W} {i : Int32} (C0 : lw_At p s m meth c b L xs) (hL : L ≤ 3072) (hAl : ∀ q, A q → s.heap.size ≤ q) (hbA : ¬ A b) (hA : ∀ q, s.heap.size ≤ q → A q) (hK : va_K D vwCl (xT y) s) (hi0 : 0 ≤ i.toInt) (hi1 : i.toInt + 6 ≤ (L : Int)) (hCX : CX y h0 t X) (hRX : RX y h1 t Y) (hP : va_P D vwCl (X ++ Y) H) (hD : va_D A (X ++ Y)) (hS : va_S A s.heap H locs) (hl : lv_has ls 4 [(3, .int i), (2, .ref h1), (1, .ref h0), (0, .ref b)]) (kk : ∀ (t : Int) (X Y : va_W) (H : Heap) (locs : List Loc) (ls : Array Slot), CX y h0 t X → RX y h1 t Y → va_P D vwCl (X ++ Y) H → va_D A (X ++ Y) → va_S A s.heap H locs → lv_has ls 4 [(3, .int i), (2, .ref h1), (1, .ref h0), (0, .ref b)] → W p l e room_1 s m #[Value.ref b] below meth c H locs 135 68060 (lw_Z below #[Value.ref b] s) (F0 m 951 ls [])) : W p l e room_1 s m #[Value.ref b] below meth c H locs 135 68060 (lw_Z below #[Value.ref b] s) (F0 m 226 ls []) := by
  obtain ⟨hx, hb, hr, hml, hown, hts, hX, hbl, hlocks, hgv⟩ := id C0
  have hown : s.vm.findClass RL = some m.cls := hown
  obtain ⟨ad, iv, pv, tv, o1, o2, r1, r2, fi, F1, F2, τ, rfl, rfl, hXI, hKI, hC22⟩ := hCX
  obtain ⟨am, zw, σ, rfl, rfl, hRI, hAT, hR1⟩ := hRX
  obtain ⟨ht, hd, hg, hPG, hop, hB49, hB62, hB63, hB25, hB64, hB65, hB26, hB35, hB80, hB50, hB51, hB52, hB53, hB45, hB46, hB55, hB56, hB57, hB58, hB75, hB76⟩ := id hRI
  have hP : va_P D vwCl ((xwv y ad iv pv tv (KL y (ad 190) o1 o2 r1 r2 fi F1 F2) (.ref (ad 80)) (.ref (ad 60)) τ) ++ mwd y am zw σ) H := hP
  have hD : va_D A ((xwv y ad iv pv tv (KL y (ad 190) o1 o2 r1 r2 fi F1 F2) (.ref (ad 80)) (.ref (ad 60)) τ) ++ mwd y am zw σ) := hD
  refine lv_aload_n hx hb dL_law_226 rfl (lv_at hl 2 rfl) ?_
  refine x_calliA (X := (xwv y ad iv pv tv (KL y (ad 190) o1 o2 r1 r2 fi F1 F2) (.ref (ad 80)) (.ref (ad 60)) τ)) (pl := mwd y am zw σ) (w1 := fun (u : OS × Value × Value × Value) => xwv y ad u.2.1 pv tv (KL y (ad 190) o1 o2 r1 r2 fi F1 F2) u.2.2.1 u.2.2.2 u.1) (va_runV (As := []) (rest := []) ⟨hx, hb, hml, hown, hts⟩ (x_m_program l D y H.size ad iv pv tv (KL y (ad 190) o1 o2 r1 r2 fi F1 F2) τ  hXI) (cwV 0 hts gl_4 rfl rfl rfl (by decide +kernel) ⟨Nat.le_of_ble_eq_true rfl, Nat.le_of_ble_eq_true rfl⟩) (x_preV (q := (RX11, TX11, 11)) hK (x_lP hP) (x_lD hD) (ci := 10) (q0 := 0) rfl rfl) rfl rfl hl.1 rfl (lv_room (Nat.le_of_ble_eq_true rfl)) dL_law_227 ⟨Nat.le_of_ble_eq_true rfl, Nat.le_of_ble_eq_true rfl⟩) hP hD hS hA (fun z1 u1 H locs hw1 hP hD hS => ?_)
  obtain ⟨X2, hCX2, hP, hD⟩ : ∃ X2 : va_W, CX y (ad 0) 0 X2 ∧ va_P D vwCl (X2 ++ mwd y am zw σ) H ∧ va_D A (X2 ++ mwd y am zw σ) := by
    obtain ⟨f1, f2⟩ := hw1
    rcases f2 with ⟨e1, e2, e3⟩ | ⟨e1, e2, e3⟩
    · try dsimp only at hP hD
      rw [e1, e2] at hP hD
      exact ⟨_, ⟨ad, u1.2.1, pv, tv, o1, o2, r1, r2, fi, F1, F2, u1.1, rfl, rfl, e3, hKI, f1⟩, hP, hD⟩
    · try dsimp only at hP hD
      rw [e1, e2, xwv_tail] at hP hD
      have hP := x_swapP hP
      have hD := x_swapD hD
      rw [← xwd_tail] at hP hD
      exact ⟨_, ⟨fun k => ad (pq k), u1.2.1, pv, tv, o1, o2, r1, r2, fi, F1, F2, sw u1.1, rfl, rfl, e3, hKI, f1⟩, hP, hD⟩
  refine lv_pop hx hb dL_law_230 rfl ?_
  refine lv_aload_n hx hb dL_law_231 rfl (lv_at hl 1 rfl) ?_
  refine x_calliB (X := mwd y am zw σ) (pl := X2) (w1 := fun (u : Int32 × Int32 × Int32 × Int32 × Int32 × Int32 × (Nat → Int32) × Int32 × (Nat → Int32) × Int32 × (Nat → Int32) × (Nat → Int32) × Int32 × (Nat → Int32) × Int32 × (Nat → Int64) × (Nat → Int32) × (Nat → Int32) × (Nat → Int32) × (Nat → Int32) × Int32 × (Nat → Int32) × Int32 × Int32 × Int32 × Int32 × (Nat → Int32) × (Nat → Int32) × (Nat → Int64) × (Nat → Int64) × Int32 × Int32 × Int32 × Int32) => mwd y am zw (sI (sI (sI (sI (tJ (tJ (tI (tI (sI (sI (sI (sI (tI (sI (tI (tI (tI (tI (tJ (sI (tI (sI (tI (tI (sI (tI (sI (tI (sI (sI (sI (sI (sI (sI σ 2 u.1) 4 u.2.1) 5 u.2.2.1) 6 u.2.2.2.1) 23 u.2.2.2.2.1) 29 u.2.2.2.2.2.1) 27 u.2.2.2.2.2.2.1) 32 u.2.2.2.2.2.2.2.1) 30 u.2.2.2.2.2.2.2.2.1) 31 u.2.2.2.2.2.2.2.2.2.1) 24 u.2.2.2.2.2.2.2.2.2.2.1) 26 u.2.2.2.2.2.2.2.2.2.2.2.1) 40 u.2.2.2.2.2.2.2.2.2.2.2.2.1) 41 u.2.2.2.2.2.2.2.2.2.2.2.2.2.1) 33 u.2.2.2.2.2.2.2.2.2.2.2.2.2.2.1) 34 u.2.2.2.2.2.2.2.2.2.2.2.2.2.2.2.1) 35 u.2.2.2.2.2.2.2.2.2.2.2.2.2.2.2.2.1) 36 u.2.2.2.2.2.2.2.2.2.2.2.2.2.2.2.2.2.1) 37 u.2.2.2.2.2.2.2.2.2.2.2.2.2.2.2.2.2.2.1) 38 u.2.2.2.2.2.2.2.2.2.2.2.2.2.2.2.2.2.2.2.1) 39 u.2.2.2.2.2.2.2.2.2.2.2.2.2.2.2.2.2.2.2.2.1) 25 u.2.2.2.2.2.2.2.2.2.2.2.2.2.2.2.2.2.2.2.2.2.1) 3 u.2.2.2.2.2.2.2.2.2.2.2.2.2.2.2.2.2.2.2.2.2.2.1) 1 u.2.2.2.2.2.2.2.2.2.2.2.2.2.2.2.2.2.2.2.2.2.2.2.1) 7 u.2.2.2.2.2.2.2.2.2.2.2.2.2.2.2.2.2.2.2.2.2.2.2.2.1) 8 u.2.2.2.2.2.2.2.2.2.2.2.2.2.2.2.2.2.2.2.2.2.2.2.2.2.1) 85 u.2.2.2.2.2.2.2.2.2.2.2.2.2.2.2.2.2.2.2.2.2.2.2.2.2.2.1) 28 u.2.2.2.2.2.2.2.2.2.2.2.2.2.2.2.2.2.2.2.2.2.2.2.2.2.2.2.1) 45 u.2.2.2.2.2.2.2.2.2.2.2.2.2.2.2.2.2.2.2.2.2.2.2.2.2.2.2.2.1) 46 u.2.2.2.2.2.2.2.2.2.2.2.2.2.2.2.2.2.2.2.2.2.2.2.2.2.2.2.2.2.1) 47 u.2.2.2.2.2.2.2.2.2.2.2.2.2.2.2.2.2.2.2.2.2.2.2.2.2.2.2.2.2.2.1) 48 u.2.2.2.2.2.2.2.2.2.2.2.2.2.2.2.2.2.2.2.2.2.2.2.2.2.2.2.2.2.2.2.1) 54 u.2.2.2.2.2.2.2.2.2.2.2.2.2.2.2.2.2.2.2.2.2.2.2.2.2.2.2.2.2.2.2.2.1) 78 u.2.2.2.2.2.2.2.2.2.2.2.2.2.2.2.2.2.2.2.2.2.2.2.2.2.2.2.2.2.2.2.2.2)) (va_runV (As := []) (rest := []) ⟨hx, hb, hml, hown, hts⟩ (q_program l D y H.size am zw σ ht.1 ht.2 hd.1 hd.2.1 hd.2.2 hPG hB35 hB26 hB25 hB45 hB46) (cwV 0 hts gl_5 rfl rfl rfl (by decide +kernel) ⟨Nat.le_of_ble_eq_true rfl, Nat.le_of_ble_eq_true rfl⟩) (x_preV (q := (RX12, TX12, 85)) hK (x_rP hP) (x_rD hD) (ci := 11) (q0 := 0) rfl rfl) rfl rfl hl.1 rfl (lv_room (Nat.le_of_ble_eq_true rfl)) dL_law_232 ⟨Nat.le_of_ble_eq_true rfl, Nat.le_of_ble_eq_true rfl⟩) hP hD hS hA (fun z2 u2 H locs hw2 hP hD hS => ?_)
  obtain ⟨⟨k0, k1, k2, k3, k4⟩, k5, k6, k7, k8, k9⟩ := hw2
  have hT2 : 0 ≤ (u2.2.2.2.2.2.2.2.2.2.2.2.2.2.2.2.2.2.2.2.2.2.2.2.1).toInt ∧ (u2.2.2.2.2.2.2.2.2.2.2.2.2.2.2.2.2.2.2.2.2.2.2.2.1).toInt ≤ 700 := by rw [k0]; decide
  have hz9 := k0
  have hRI2 : RI (sI (sI (sI (sI (tJ (tJ (tI (tI (sI (sI (sI (sI (tI (sI (tI (tI (tI (tI (tJ (sI (tI (sI (tI (tI (sI (tI (sI (tI (sI (sI (sI (sI (sI (sI σ 2 u2.1) 4 u2.2.1) 5 u2.2.2.1) 6 u2.2.2.2.1) 23 u2.2.2.2.2.1) 29 u2.2.2.2.2.2.1) 27 u2.2.2.2.2.2.2.1) 32 u2.2.2.2.2.2.2.2.1) 30 u2.2.2.2.2.2.2.2.2.1) 31 u2.2.2.2.2.2.2.2.2.2.1) 24 u2.2.2.2.2.2.2.2.2.2.2.1) 26 u2.2.2.2.2.2.2.2.2.2.2.2.1) 40 u2.2.2.2.2.2.2.2.2.2.2.2.2.1) 41 u2.2.2.2.2.2.2.2.2.2.2.2.2.2.1) 33 u2.2.2.2.2.2.2.2.2.2.2.2.2.2.2.1) 34 u2.2.2.2.2.2.2.2.2.2.2.2.2.2.2.2.1) 35 u2.2.2.2.2.2.2.2.2.2.2.2.2.2.2.2.2.1) 36 u2.2.2.2.2.2.2.2.2.2.2.2.2.2.2.2.2.2.1) 37 u2.2.2.2.2.2.2.2.2.2.2.2.2.2.2.2.2.2.2.1) 38 u2.2.2.2.2.2.2.2.2.2.2.2.2.2.2.2.2.2.2.2.1) 39 u2.2.2.2.2.2.2.2.2.2.2.2.2.2.2.2.2.2.2.2.2.1) 25 u2.2.2.2.2.2.2.2.2.2.2.2.2.2.2.2.2.2.2.2.2.2.1) 3 u2.2.2.2.2.2.2.2.2.2.2.2.2.2.2.2.2.2.2.2.2.2.2.1) 1 u2.2.2.2.2.2.2.2.2.2.2.2.2.2.2.2.2.2.2.2.2.2.2.2.1) 7 u2.2.2.2.2.2.2.2.2.2.2.2.2.2.2.2.2.2.2.2.2.2.2.2.2.1) 8 u2.2.2.2.2.2.2.2.2.2.2.2.2.2.2.2.2.2.2.2.2.2.2.2.2.2.1) 85 u2.2.2.2.2.2.2.2.2.2.2.2.2.2.2.2.2.2.2.2.2.2.2.2.2.2.2.1) 28 u2.2.2.2.2.2.2.2.2.2.2.2.2.2.2.2.2.2.2.2.2.2.2.2.2.2.2.2.1) 45 u2.2.2.2.2.2.2.2.2.2.2.2.2.2.2.2.2.2.2.2.2.2.2.2.2.2.2.2.2.1) 46 u2.2.2.2.2.2.2.2.2.2.2.2.2.2.2.2.2.2.2.2.2.2.2.2.2.2.2.2.2.2.1) 47 u2.2.2.2.2.2.2.2.2.2.2.2.2.2.2.2.2.2.2.2.2.2.2.2.2.2.2.2.2.2.2.1) 48 u2.2.2.2.2.2.2.2.2.2.2.2.2.2.2.2.2.2.2.2.2.2.2.2.2.2.2.2.2.2.2.2.1) 54 u2.2.2.2.2.2.2.2.2.2.2.2.2.2.2.2.2.2.2.2.2.2.2.2.2.2.2.2.2.2.2.2.2.1) 78 u2.2.2.2.2.2.2.2.2.2.2.2.2.2.2.2.2.2.2.2.2.2.2.2.2.2.2.2.2.2.2.2.2.2) := ⟨hT2, ⟨k1, k2, k3⟩, hg, k4, hop, hB49, hB62, hB63, k7, hB64, hB65, k6, k5, hB80, hB50, hB51, hB52, hB53, k8, k9, hB55, hB56, hB57, hB58, hB75, hB76⟩
  have hRX2 : RX y (am 1) 0 (mwd y am zw (sI (sI (sI (sI (tJ (tJ (tI (tI (sI (sI (sI (sI (tI (sI (tI (tI (tI (tI (tJ (sI (tI (sI (tI (tI (sI (tI (sI (tI (sI (sI (sI (sI (sI (sI σ 2 u2.1) 4 u2.2.1) 5 u2.2.2.1) 6 u2.2.2.2.1) 23 u2.2.2.2.2.1) 29 u2.2.2.2.2.2.1) 27 u2.2.2.2.2.2.2.1) 32 u2.2.2.2.2.2.2.2.1) 30 u2.2.2.2.2.2.2.2.2.1) 31 u2.2.2.2.2.2.2.2.2.2.1) 24 u2.2.2.2.2.2.2.2.2.2.2.1) 26 u2.2.2.2.2.2.2.2.2.2.2.2.1) 40 u2.2.2.2.2.2.2.2.2.2.2.2.2.1) 41 u2.2.2.2.2.2.2.2.2.2.2.2.2.2.1) 33 u2.2.2.2.2.2.2.2.2.2.2.2.2.2.2.1) 34 u2.2.2.2.2.2.2.2.2.2.2.2.2.2.2.2.1) 35 u2.2.2.2.2.2.2.2.2.2.2.2.2.2.2.2.2.1) 36 u2.2.2.2.2.2.2.2.2.2.2.2.2.2.2.2.2.2.1) 37 u2.2.2.2.2.2.2.2.2.2.2.2.2.2.2.2.2.2.2.1) 38 u2.2.2.2.2.2.2.2.2.2.2.2.2.2.2.2.2.2.2.2.1) 39 u2.2.2.2.2.2.2.2.2.2.2.2.2.2.2.2.2.2.2.2.2.1) 25 u2.2.2.2.2.2.2.2.2.2.2.2.2.2.2.2.2.2.2.2.2.2.1) 3 u2.2.2.2.2.2.2.2.2.2.2.2.2.2.2.2.2.2.2.2.2.2.2.1) 1 u2.2.2.2.2.2.2.2.2.2.2.2.2.2.2.2.2.2.2.2.2.2.2.2.1) 7 u2.2.2.2.2.2.2.2.2.2.2.2.2.2.2.2.2.2.2.2.2.2.2.2.2.1) 8 u2.2.2.2.2.2.2.2.2.2.2.2.2.2.2.2.2.2.2.2.2.2.2.2.2.2.1) 85 u2.2.2.2.2.2.2.2.2.2.2.2.2.2.2.2.2.2.2.2.2.2.2.2.2.2.2.1) 28 u2.2.2.2.2.2.2.2.2.2.2.2.2.2.2.2.2.2.2.2.2.2.2.2.2.2.2.2.1) 45 u2.2.2.2.2.2.2.2.2.2.2.2.2.2.2.2.2.2.2.2.2.2.2.2.2.2.2.2.2.1) 46 u2.2.2.2.2.2.2.2.2.2.2.2.2.2.2.2.2.2.2.2.2.2.2.2.2.2.2.2.2.2.1) 47 u2.2.2.2.2.2.2.2.2.2.2.2.2.2.2.2.2.2.2.2.2.2.2.2.2.2.2.2.2.2.2.1) 48 u2.2.2.2.2.2.2.2.2.2.2.2.2.2.2.2.2.2.2.2.2.2.2.2.2.2.2.2.2.2.2.2.1) 54 u2.2.2.2.2.2.2.2.2.2.2.2.2.2.2.2.2.2.2.2.2.2.2.2.2.2.2.2.2.2.2.2.2.1) 78 u2.2.2.2.2.2.2.2.2.2.2.2.2.2.2.2.2.2.2.2.2.2.2.2.2.2.2.2.2.2.2.2.2.2)) := ⟨am, zw, _, rfl, rfl, hRI2, hAT, hz9⟩
  refine lv_pop hx hb dL_law_235 rfl ?_
  refine lv_goto (tgt := 951) hx hb dL_law_236 (by decide) ?_
  exact kk _ _ _ _ _ _ hCX2 hRX2 hP hD hS hl
set_option maxHeartbeats 4000000 in
set_option maxRecDepth 100000 in
theorem law_case_3 {D : va_G} {y : Nat → ClassId} {p : Program} {e : Env} {s : State} {m : MethodId} {below : List Frame} {meth : Method} {c : Code} (l : Launch) {b L : Nat} {xs : Nat → Int32} {A : Nat → Prop} {H : Heap} {locs : List Loc} {ls : Array Slot} {h0 h1 : Nat} {t : Int} {X Y : va_W} {i : Int32} (C0 : lw_At p s m meth c b L xs) (hL : L ≤ 3072) (hAl : ∀ q, A q → s.heap.size ≤ q) (hbA : ¬ A b) (hA : ∀ q, s.heap.size ≤ q → A q) (hK : va_K D vwCl (xT y) s) (hi0 : 0 ≤ i.toInt) (hi1 : i.toInt + 6 ≤ (L : Int)) (hCX : CX y h0 t X) (hRX : RX y h1 t Y) (hP : va_P D vwCl (X ++ Y) H) (hD : va_D A (X ++ Y)) (hS : va_S A s.heap H locs) (hl : lv_has ls 4 [(3, .int i), (2, .ref h1), (1, .ref h0), (0, .ref b)]) (kk : ∀ (t : Int) (X Y : va_W) (H : Heap) (locs : List Loc) (ls : Array Slot), CX y h0 t X → RX y h1 t Y → va_P D vwCl (X ++ Y) H → va_D A (X ++ Y) → va_S A s.heap H locs → lv_has ls 4 [(3, .int i), (2, .ref h1), (1, .ref h0), (0, .ref b)] → W p l e room_1 s m #[Value.ref b] below meth c H locs 135 68060 (lw_Z below #[Value.ref b] s) (F0 m 951 ls [])) : W p l e room_1 s m #[Value.ref b] below meth c H locs 135 68060 (lw_Z below #[Value.ref b] s) (F0 m 239 ls []) := by
  obtain ⟨hx, hb, hr, hml, hown, hts, hX, hbl, hlocks, hgv⟩ := id C0
  have hown : s.vm.findClass RL = some m.cls := hown
  obtain ⟨ad, iv, pv, tv, o1, o2, r1, r2, fi, F1, F2, τ, rfl, rfl, hXI, hKI, hC22⟩ := hCX
  obtain ⟨am, zw, σ, rfl, rfl, hRI, hAT, hR1⟩ := hRX
  obtain ⟨ht, hd, hg, hPG, hop, hB49, hB62, hB63, hB25, hB64, hB65, hB26, hB35, hB80, hB50, hB51, hB52, hB53, hB45, hB46, hB55, hB56, hB57, hB58, hB75, hB76⟩ := id hRI
  refine lv_aload_n hx hb dL_law_239 rfl (lv_at hl 2 rfl) ?_
  refine lv_aload_n hx hb dL_law_240 rfl (lv_at hl 3 rfl) ?_
  refine lv_iload_n hx hb dL_law_241 rfl (lv_at hl 0 rfl) ?_
  refine lv_iconst (v := 1) hx hb dL_law_242 (by decide) ?_
  refine lv_iadd hx hb dL_law_243 ?_
  refine va_sld hx hb hX hbl hbA hS (x_ix (i := i) (k := 1) hi0 hi1 hL (by decide) (by decide)) dL_law_244 ?_
  refine x_calliA (X := (xwd y ad iv pv tv (KL y (ad 190) o1 o2 r1 r2 fi F1 F2) τ)) (pl := mwd y am zw σ) (w1 := fun (u : OS) => xwd y ad iv pv tv (KL y (ad 190) o1 o2 r1 r2 fi F1 F2) u) (va_runV (As := [.int (xs (Int32.toNatClampNeg (i + 1)))]) (rest := []) ⟨hx, hb, hml, hown, hts⟩ (x_m_fault l D y H.size ad iv pv tv (KL y (ad 190) o1 o2 r1 r2 fi F1 F2) τ (xs (Int32.toNatClampNeg (i + 1))) hXI) (cwV 1 hts gl_6 rfl rfl rfl (by decide +kernel) ⟨Nat.le_of_ble_eq_true rfl, Nat.le_of_ble_eq_true rfl⟩) (x_preV (q := (RX11, TX11, 11)) hK (x_lP hP) (x_lD hD) (ci := 10) (q0 := 0) rfl rfl) rfl rfl hl.1 rfl (lv_room (Nat.le_of_ble_eq_true rfl)) dL_law_245 ⟨Nat.le_of_ble_eq_true rfl, Nat.le_of_ble_eq_true rfl⟩) hP hD hS hA (fun z1 u1 H locs hw1 hP hD hS => ?_)
  have hCX2 : CX y (ad 0) t (xwd y ad iv pv tv (KL y (ad 190) o1 o2 r1 r2 fi F1 F2) u1) := ⟨ad, iv, pv, tv, o1, o2, r1, r2, fi, F1, F2, u1, rfl, rfl, hw1.1, hKI, (congrArg Int32.toInt hw1.2).trans hC22⟩
  refine lv_pop hx hb dL_law_248 rfl ?_
  refine lv_aload_n hx hb dL_law_249 rfl (lv_at hl 1 rfl) ?_
  refine lv_aload_n hx hb dL_law_250 rfl (lv_at hl 3 rfl) ?_
  refine lv_iload_n hx hb dL_law_251 rfl (lv_at hl 0 rfl) ?_
  refine lv_iconst (v := 1) hx hb dL_law_252 (by decide) ?_
  refine lv_iadd hx hb dL_law_253 ?_
  refine va_sld hx hb hX hbl hbA hS (x_ix (i := i) (k := 1) hi0 hi1 hL (by decide) (by decide)) dL_law_254 ?_
  refine x_calliB (X := mwd y am zw σ) (pl := (xwd y ad iv pv tv (KL y (ad 190) o1 o2 r1 r2 fi F1 F2) u1)) (w1 := fun (u : Unit) => mwd y am zw σ) (va_runV (As := [.int (xs (Int32.toNatClampNeg (i + 1)))]) (rest := []) ⟨hx, hb, hml, hown, hts⟩ (q_fault l D y H.size am zw σ (xs (Int32.toNatClampNeg (i + 1)))) (cwV 1 hts gl_7 rfl rfl rfl (by decide +kernel) ⟨Nat.le_of_ble_eq_true rfl, Nat.le_of_ble_eq_true rfl⟩) (x_preV (q := (RX12, TX12, 85)) hK (x_rP hP) (x_rD hD) (ci := 11) (q0 := 0) rfl rfl) rfl rfl hl.1 rfl (lv_room (Nat.le_of_ble_eq_true rfl)) dL_law_255 ⟨Nat.le_of_ble_eq_true rfl, Nat.le_of_ble_eq_true rfl⟩) hP hD hS hA (fun z2 u2 H locs hw2 hP hD hS => ?_)
  clear hw2
  have hRI2 : RI σ := ⟨ht, hd, hg, hPG, hop, hB49, hB62, hB63, hB25, hB64, hB65, hB26, hB35, hB80, hB50, hB51, hB52, hB53, hB45, hB46, hB55, hB56, hB57, hB58, hB75, hB76⟩
  have hRX2 : RX y (am 1) t (mwd y am zw σ) := ⟨am, zw, _, rfl, rfl, hRI2, hAT, hR1⟩
  refine lv_pop hx hb dL_law_258 rfl ?_
  refine lv_goto (tgt := 951) hx hb dL_law_259 (by decide) ?_
  exact kk _ _ _ _ _ _ hCX2 hRX2 hP hD hS hl
set_option maxHeartbeats 4000000 in
set_option maxRecDepth 100000 in
theorem law_case_4 {D : va_G} {y : Nat → ClassId} {p : Program} {e : Env} {s : State} {m : MethodId} {below : List Frame} {meth : Method} {c : Code} (l : Launch) {b L : Nat} {xs : Nat → Int32} {A : Nat → Prop} {H : Heap} {locs : List Loc} {ls : Array Slot} {h0 h1 : Nat} {t : Int} {X Y : va_W} {i : Int32} (C0 : lw_At p s m meth c b L xs) (hL : L ≤ 3072) (hAl : ∀ q, A q → s.heap.size ≤ q) (hbA : ¬ A b) (hA : ∀ q, s.heap.size ≤ q → A q) (hK : va_K D vwCl (xT y) s) (hi0 : 0 ≤ i.toInt) (hi1 : i.toInt + 6 ≤ (L : Int)) (hCX : CX y h0 t X) (hRX : RX y h1 t Y) (hP : va_P D vwCl (X ++ Y) H) (hD : va_D A (X ++ Y)) (hS : va_S A s.heap H locs) (hl : lv_has ls 4 [(3, .int i), (2, .ref h1), (1, .ref h0), (0, .ref b)]) (kk : ∀ (t : Int) (X Y : va_W) (H : Heap) (locs : List Loc) (ls : Array Slot), CX y h0 t X → RX y h1 t Y → va_P D vwCl (X ++ Y) H → va_D A (X ++ Y) → va_S A s.heap H locs → lv_has ls 4 [(3, .int i), (2, .ref h1), (1, .ref h0), (0, .ref b)] → W p l e room_1 s m #[Value.ref b] below meth c H locs 135 68060 (lw_Z below #[Value.ref b] s) (F0 m 951 ls [])) : W p l e room_1 s m #[Value.ref b] below meth c H locs 135 68060 (lw_Z below #[Value.ref b] s) (F0 m 262 ls []) := by
  obtain ⟨hx, hb, hr, hml, hown, hts, hX, hbl, hlocks, hgv⟩ := id C0
  have hown : s.vm.findClass RL = some m.cls := hown
  obtain ⟨ad, iv, pv, tv, o1, o2, r1, r2, fi, F1, F2, τ, rfl, rfl, hXI, hKI, hC22⟩ := hCX
  obtain ⟨am, zw, σ, rfl, rfl, hRI, hAT, hR1⟩ := hRX
  obtain ⟨ht, hd, hg, hPG, hop, hB49, hB62, hB63, hB25, hB64, hB65, hB26, hB35, hB80, hB50, hB51, hB52, hB53, hB45, hB46, hB55, hB56, hB57, hB58, hB75, hB76⟩ := id hRI
  refine lv_aload_n hx hb dL_law_262 rfl (lv_at hl 2 rfl) ?_
  refine lv_aload_n hx hb dL_law_263 rfl (lv_at hl 3 rfl) ?_
  refine lv_iload_n hx hb dL_law_264 rfl (lv_at hl 0 rfl) ?_
  refine lv_iconst (v := 1) hx hb dL_law_265 (by decide) ?_
  refine lv_iadd hx hb dL_law_266 ?_
  refine va_sld hx hb hX hbl hbA hS (x_ix (i := i) (k := 1) hi0 hi1 hL (by decide) (by decide)) dL_law_267 ?_
  refine x_calliA (X := (xwd y ad iv pv tv (KL y (ad 190) o1 o2 r1 r2 fi F1 F2) τ)) (pl := mwd y am zw σ) (w1 := fun (u : OS) => xwd y ad iv pv tv (KL y (ad 190) o1 o2 r1 r2 fi F1 F2) u) (va_runV (As := [.int (xs (Int32.toNatClampNeg (i + 1)))]) (rest := []) ⟨hx, hb, hml, hown, hts⟩ (x_m_has l D y H.size ad iv pv tv (KL y (ad 190) o1 o2 r1 r2 fi F1 F2) τ (xs (Int32.toNatClampNeg (i + 1))) hXI) (cwV 1 hts gl_8 rfl rfl rfl (by decide +kernel) ⟨Nat.le_of_ble_eq_true rfl, Nat.le_of_ble_eq_true rfl⟩) (x_preV (q := (RX11, TX11, 11)) hK (x_lP hP) (x_lD hD) (ci := 10) (q0 := 0) rfl rfl) rfl rfl hl.1 rfl (lv_room (Nat.le_of_ble_eq_true rfl)) dL_law_268 ⟨Nat.le_of_ble_eq_true rfl, Nat.le_of_ble_eq_true rfl⟩) hP hD hS hA (fun z1 u1 H locs hw1 hP hD hS => ?_)
  have hCX2 : CX y (ad 0) t (xwd y ad iv pv tv (KL y (ad 190) o1 o2 r1 r2 fi F1 F2) u1) := ⟨ad, iv, pv, tv, o1, o2, r1, r2, fi, F1, F2, u1, rfl, rfl, hw1.1, hKI, (congrArg Int32.toInt hw1.2).trans hC22⟩
  refine lv_pop hx hb dL_law_271 rfl ?_
  refine lv_aload_n hx hb dL_law_272 rfl (lv_at hl 1 rfl) ?_
  refine lv_aload_n hx hb dL_law_273 rfl (lv_at hl 3 rfl) ?_
  refine lv_iload_n hx hb dL_law_274 rfl (lv_at hl 0 rfl) ?_
  refine lv_iconst (v := 1) hx hb dL_law_275 (by decide) ?_
  refine lv_iadd hx hb dL_law_276 ?_
  refine va_sld hx hb hX hbl hbA hS (x_ix (i := i) (k := 1) hi0 hi1 hL (by decide) (by decide)) dL_law_277 ?_
  refine x_calliB (X := mwd y am zw σ) (pl := (xwd y ad iv pv tv (KL y (ad 190) o1 o2 r1 r2 fi F1 F2) u1)) (w1 := fun (u : Unit) => mwd y am zw σ) (va_runV (As := [.int (xs (Int32.toNatClampNeg (i + 1)))]) (rest := []) ⟨hx, hb, hml, hown, hts⟩ (q_has l D y H.size am zw σ (xs (Int32.toNatClampNeg (i + 1)))) (cwV 1 hts gl_9 rfl rfl rfl (by decide +kernel) ⟨Nat.le_of_ble_eq_true rfl, Nat.le_of_ble_eq_true rfl⟩) (x_preV (q := (RX12, TX12, 85)) hK (x_rP hP) (x_rD hD) (ci := 11) (q0 := 0) rfl rfl) rfl rfl hl.1 rfl (lv_room (Nat.le_of_ble_eq_true rfl)) dL_law_278 ⟨Nat.le_of_ble_eq_true rfl, Nat.le_of_ble_eq_true rfl⟩) hP hD hS hA (fun z2 u2 H locs hw2 hP hD hS => ?_)
  clear hw2
  have hRI2 : RI σ := ⟨ht, hd, hg, hPG, hop, hB49, hB62, hB63, hB25, hB64, hB65, hB26, hB35, hB80, hB50, hB51, hB52, hB53, hB45, hB46, hB55, hB56, hB57, hB58, hB75, hB76⟩
  have hRX2 : RX y (am 1) t (mwd y am zw σ) := ⟨am, zw, _, rfl, rfl, hRI2, hAT, hR1⟩
  refine lv_pop hx hb dL_law_281 rfl ?_
  refine lv_goto (tgt := 951) hx hb dL_law_282 (by decide) ?_
  exact kk _ _ _ _ _ _ hCX2 hRX2 hP hD hS hl
set_option maxHeartbeats 4000000 in
set_option maxRecDepth 100000 in
theorem law_case_5 {D : va_G} {y : Nat → ClassId} {p : Program} {e : Env} {s : State} {m : MethodId} {below : List Frame} {meth : Method} {c : Code} (l : Launch) {b L : Nat} {xs : Nat → Int32} {A : Nat → Prop} {H : Heap} {locs : List Loc} {ls : Array Slot} {h0 h1 : Nat} {t : Int} {X Y : va_W} {i : Int32} (C0 : lw_At p s m meth c b L xs) (hL : L ≤ 3072) (hAl : ∀ q, A q → s.heap.size ≤ q) (hbA : ¬ A b) (hA : ∀ q, s.heap.size ≤ q → A q) (hK : va_K D vwCl (xT y) s) (hi0 : 0 ≤ i.toInt) (hi1 : i.toInt + 6 ≤ (L : Int)) (hCX : CX y h0 t X) (hRX : RX y h1 t Y) (hP : va_P D vwCl (X ++ Y) H) (hD : va_D A (X ++ Y)) (hS : va_S A s.heap H locs) (hl : lv_has ls 4 [(3, .int i), (2, .ref h1), (1, .ref h0), (0, .ref b)]) (kk : ∀ (t : Int) (X Y : va_W) (H : Heap) (locs : List Loc) (ls : Array Slot), CX y h0 t X → RX y h1 t Y → va_P D vwCl (X ++ Y) H → va_D A (X ++ Y) → va_S A s.heap H locs → lv_has ls 4 [(3, .int i), (2, .ref h1), (1, .ref h0), (0, .ref b)] → W p l e room_1 s m #[Value.ref b] below meth c H locs 135 68060 (lw_Z below #[Value.ref b] s) (F0 m 951 ls [])) : W p l e room_1 s m #[Value.ref b] below meth c H locs 135 68060 (lw_Z below #[Value.ref b] s) (F0 m 285 ls []) := by
  obtain ⟨hx, hb, hr, hml, hown, hts, hX, hbl, hlocks, hgv⟩ := id C0
  have hown : s.vm.findClass RL = some m.cls := hown
  obtain ⟨ad, iv, pv, tv, o1, o2, r1, r2, fi, F1, F2, τ, rfl, rfl, hXI, hKI, hC22⟩ := hCX
  obtain ⟨am, zw, σ, rfl, rfl, hRI, hAT, hR1⟩ := hRX
  obtain ⟨ht, hd, hg, hPG, hop, hB49, hB62, hB63, hB25, hB64, hB65, hB26, hB35, hB80, hB50, hB51, hB52, hB53, hB45, hB46, hB55, hB56, hB57, hB58, hB75, hB76⟩ := id hRI
  refine lv_aload_n hx hb dL_law_285 rfl (lv_at hl 2 rfl) ?_
  refine lv_aload_n hx hb dL_law_286 rfl (lv_at hl 3 rfl) ?_
  refine lv_iload_n hx hb dL_law_287 rfl (lv_at hl 0 rfl) ?_
  refine lv_iconst (v := 1) hx hb dL_law_288 (by decide) ?_
  refine lv_iadd hx hb dL_law_289 ?_
  refine va_sld hx hb hX hbl hbA hS (x_ix (i := i) (k := 1) hi0 hi1 hL (by decide) (by decide)) dL_law_290 ?_
  refine lv_aload_n hx hb dL_law_291 rfl (lv_at hl 3 rfl) ?_
  refine lv_iload_n hx hb dL_law_292 rfl (lv_at hl 0 rfl) ?_
  refine lv_iconst (v := 2) hx hb dL_law_293 (by decide) ?_
  refine lv_iadd hx hb dL_law_294 ?_
  refine va_sld hx hb hX hbl hbA hS (x_ix (i := i) (k := 2) hi0 hi1 hL (by decide) (by decide)) dL_law_295 ?_
  refine lv_aload_n hx hb dL_law_296 rfl (lv_at hl 3 rfl) ?_
  refine lv_iload_n hx hb dL_law_297 rfl (lv_at hl 0 rfl) ?_
  refine lv_iconst (v := 3) hx hb dL_law_298 (by decide) ?_
  refine lv_iadd hx hb dL_law_299 ?_
  refine va_sld hx hb hX hbl hbA hS (x_ix (i := i) (k := 3) hi0 hi1 hL (by decide) (by decide)) dL_law_300 ?_
  refine x_calliA (X := (xwd y ad iv pv tv (KL y (ad 190) o1 o2 r1 r2 fi F1 F2) τ)) (pl := mwd y am zw σ) (w1 := fun (u : OS) => xwd y ad iv pv tv (KL y (ad 190) o1 o2 r1 r2 fi F1 F2) u) (va_runV (As := [.int (xs (Int32.toNatClampNeg (i + 1))), .int (xs (Int32.toNatClampNeg (i + 2))), .int (xs (Int32.toNatClampNeg (i + 3)))]) (rest := []) ⟨hx, hb, hml, hown, hts⟩ (x_m_put l D y H.size ad iv pv tv (KL y (ad 190) o1 o2 r1 r2 fi F1 F2) τ (xs (Int32.toNatClampNeg (i + 1))) (xs (Int32.toNatClampNeg (i + 2))) (xs (Int32.toNatClampNeg (i + 3))) hXI) (cwV 3 hts gl_10 rfl rfl rfl (by decide +kernel) ⟨Nat.le_of_ble_eq_true rfl, Nat.le_of_ble_eq_true rfl⟩) (x_preV (q := (RX11, TX11, 11)) hK (x_lP hP) (x_lD hD) (ci := 10) (q0 := 0) rfl rfl) rfl rfl hl.1 rfl (lv_room (Nat.le_of_ble_eq_true rfl)) dL_law_301 ⟨Nat.le_of_ble_eq_true rfl, Nat.le_of_ble_eq_true rfl⟩) hP hD hS hA (fun z1 u1 H locs hw1 hP hD hS => ?_)
  have hCX2 : CX y (ad 0) t (xwd y ad iv pv tv (KL y (ad 190) o1 o2 r1 r2 fi F1 F2) u1) := ⟨ad, iv, pv, tv, o1, o2, r1, r2, fi, F1, F2, u1, rfl, rfl, hw1.1, hKI, (congrArg Int32.toInt hw1.2).trans hC22⟩
  refine lv_pop hx hb dL_law_304 rfl ?_
  refine lv_aload_n hx hb dL_law_305 rfl (lv_at hl 1 rfl) ?_
  refine lv_aload_n hx hb dL_law_306 rfl (lv_at hl 3 rfl) ?_
  refine lv_iload_n hx hb dL_law_307 rfl (lv_at hl 0 rfl) ?_
  refine lv_iconst (v := 1) hx hb dL_law_308 (by decide) ?_
  refine lv_iadd hx hb dL_law_309 ?_
  refine va_sld hx hb hX hbl hbA hS (x_ix (i := i) (k := 1) hi0 hi1 hL (by decide) (by decide)) dL_law_310 ?_
  refine lv_aload_n hx hb dL_law_311 rfl (lv_at hl 3 rfl) ?_
  refine lv_iload_n hx hb dL_law_312 rfl (lv_at hl 0 rfl) ?_
  refine lv_iconst (v := 2) hx hb dL_law_313 (by decide) ?_
  refine lv_iadd hx hb dL_law_314 ?_
  refine va_sld hx hb hX hbl hbA hS (x_ix (i := i) (k := 2) hi0 hi1 hL (by decide) (by decide)) dL_law_315 ?_
  refine lv_aload_n hx hb dL_law_316 rfl (lv_at hl 3 rfl) ?_
  refine lv_iload_n hx hb dL_law_317 rfl (lv_at hl 0 rfl) ?_
  refine lv_iconst (v := 3) hx hb dL_law_318 (by decide) ?_
  refine lv_iadd hx hb dL_law_319 ?_
  refine va_sld hx hb hX hbl hbA hS (x_ix (i := i) (k := 3) hi0 hi1 hL (by decide) (by decide)) dL_law_320 ?_
  refine x_calliB (X := mwd y am zw σ) (pl := (xwd y ad iv pv tv (KL y (ad 190) o1 o2 r1 r2 fi F1 F2) u1)) (w1 := fun (u : Int32 × Int32 × (Nat → Int32) × (Nat → Int64) × (Nat → Int64) × (Nat → Int64) × (Nat → Int64) × (Nat → Int64) × (Nat → Int64)) => mwd y am zw (tJ (tJ (tJ (tJ (tJ (tJ (tI (sI (sI σ 47 u.1) 48 u.2.1) 49 u.2.2.1) 50 u.2.2.2.1) 51 u.2.2.2.2.1) 52 u.2.2.2.2.2.1) 53 u.2.2.2.2.2.2.1) 45 u.2.2.2.2.2.2.2.1) 46 u.2.2.2.2.2.2.2.2)) (va_runV (As := [.int (xs (Int32.toNatClampNeg (i + 1))), .int (xs (Int32.toNatClampNeg (i + 2))), .int (xs (Int32.toNatClampNeg (i + 3)))]) (rest := []) ⟨hx, hb, hml, hown, hts⟩ (q_put l D y H.size am zw σ (xs (Int32.toNatClampNeg (i + 1))) (xs (Int32.toNatClampNeg (i + 2))) (xs (Int32.toNatClampNeg (i + 3))) ⟨hPG.1, hPG.2.1⟩ hd.1 hd.2.1 hd.2.2 hB49 hB50 hB51 hB52 hB53 hB45 hB46) (cwV 3 hts gl_11 rfl rfl rfl (by decide +kernel) ⟨Nat.le_of_ble_eq_true rfl, Nat.le_of_ble_eq_true rfl⟩) (x_preV (q := (RX12, TX12, 85)) hK (x_rP hP) (x_rD hD) (ci := 11) (q0 := 0) rfl rfl) rfl rfl hl.1 rfl (lv_room (Nat.le_of_ble_eq_true rfl)) dL_law_321 ⟨Nat.le_of_ble_eq_true rfl, Nat.le_of_ble_eq_true rfl⟩) hP hD hS hA (fun z2 u2 H locs hw2 hP hD hS => ?_)
  obtain ⟨⟨k0, k1, k2⟩, k3, k4, k5, k6, k7, k8, k9⟩ := hw2
  have hRI2 : RI (tJ (tJ (tJ (tJ (tJ (tJ (tI (sI (sI σ 47 u2.1) 48 u2.2.1) 49 u2.2.2.1) 50 u2.2.2.2.1) 51 u2.2.2.2.2.1) 52 u2.2.2.2.2.2.1) 53 u2.2.2.2.2.2.2.1) 45 u2.2.2.2.2.2.2.2.1) 46 u2.2.2.2.2.2.2.2.2) := ⟨ht, ⟨k0, k1, k2⟩, hg, hPG, hop, k3, hB62, hB63, hB25, hB64, hB65, hB26, hB35, hB80, k4, k5, k6, k7, k8, k9, hB55, hB56, hB57, hB58, hB75, hB76⟩
  have hRX2 : RX y (am 1) t (mwd y am zw (tJ (tJ (tJ (tJ (tJ (tJ (tI (sI (sI σ 47 u2.1) 48 u2.2.1) 49 u2.2.2.1) 50 u2.2.2.2.1) 51 u2.2.2.2.2.1) 52 u2.2.2.2.2.2.1) 53 u2.2.2.2.2.2.2.1) 45 u2.2.2.2.2.2.2.2.1) 46 u2.2.2.2.2.2.2.2.2)) := ⟨am, zw, _, rfl, rfl, hRI2, hAT, hR1⟩
  refine lv_pop hx hb dL_law_324 rfl ?_
  refine lv_goto (tgt := 951) hx hb dL_law_325 (by decide) ?_
  exact kk _ _ _ _ _ _ hCX2 hRX2 hP hD hS hl
set_option maxHeartbeats 4000000 in
set_option maxRecDepth 100000 in
theorem law_case_6 {D : va_G} {y : Nat → ClassId} {p : Program} {e : Env} {s : State} {m : MethodId} {below : List Frame} {meth : Method} {c : Code} (l : Launch) {b L : Nat} {xs : Nat → Int32} {A : Nat → Prop} {H : Heap} {locs : List Loc} {ls : Array Slot} {h0 h1 : Nat} {t : Int} {X Y : va_W} {i : Int32} (C0 : lw_At p s m meth c b L xs) (hL : L ≤ 3072) (hAl : ∀ q, A q → s.heap.size ≤ q) (hbA : ¬ A b) (hA : ∀ q, s.heap.size ≤ q → A q) (hK : va_K D vwCl (xT y) s) (hi0 : 0 ≤ i.toInt) (hi1 : i.toInt + 6 ≤ (L : Int)) (hCX : CX y h0 t X) (hRX : RX y h1 t Y) (hP : va_P D vwCl (X ++ Y) H) (hD : va_D A (X ++ Y)) (hS : va_S A s.heap H locs) (hl : lv_has ls 4 [(3, .int i), (2, .ref h1), (1, .ref h0), (0, .ref b)]) (kk : ∀ (t : Int) (X Y : va_W) (H : Heap) (locs : List Loc) (ls : Array Slot), CX y h0 t X → RX y h1 t Y → va_P D vwCl (X ++ Y) H → va_D A (X ++ Y) → va_S A s.heap H locs → lv_has ls 4 [(3, .int i), (2, .ref h1), (1, .ref h0), (0, .ref b)] → W p l e room_1 s m #[Value.ref b] below meth c H locs 135 68060 (lw_Z below #[Value.ref b] s) (F0 m 951 ls [])) : W p l e room_1 s m #[Value.ref b] below meth c H locs 135 68060 (lw_Z below #[Value.ref b] s) (F0 m 328 ls []) := by
  obtain ⟨hx, hb, hr, hml, hown, hts, hX, hbl, hlocks, hgv⟩ := id C0
  have hown : s.vm.findClass RL = some m.cls := hown
  obtain ⟨ad, iv, pv, tv, o1, o2, r1, r2, fi, F1, F2, τ, rfl, rfl, hXI, hKI, hC22⟩ := hCX
  obtain ⟨am, zw, σ, rfl, rfl, hRI, hAT, hR1⟩ := hRX
  obtain ⟨ht, hd, hg, hPG, hop, hB49, hB62, hB63, hB25, hB64, hB65, hB26, hB35, hB80, hB50, hB51, hB52, hB53, hB45, hB46, hB55, hB56, hB57, hB58, hB75, hB76⟩ := id hRI
  refine lv_aload_n hx hb dL_law_328 rfl (lv_at hl 2 rfl) ?_
  refine x_calliA (X := (xwd y ad iv pv tv (KL y (ad 190) o1 o2 r1 r2 fi F1 F2) τ)) (pl := mwd y am zw σ) (w1 := fun (u : OS) => xwd y ad iv pv tv (KL y (ad 190) o1 o2 r1 r2 fi F1 F2) u) (va_runV (As := []) (rest := []) ⟨hx, hb, hml, hown, hts⟩ (x_m_undo l D y H.size ad iv pv tv (KL y (ad 190) o1 o2 r1 r2 fi F1 F2) τ  hXI) (cwV 0 hts gl_12 rfl rfl rfl (by decide +kernel) ⟨Nat.le_of_ble_eq_true rfl, Nat.le_of_ble_eq_true rfl⟩) (x_preV (q := (RX11, TX11, 11)) hK (x_lP hP) (x_lD hD) (ci := 10) (q0 := 0) rfl rfl) rfl rfl hl.1 rfl (lv_room (Nat.le_of_ble_eq_true rfl)) dL_law_329 ⟨Nat.le_of_ble_eq_true rfl, Nat.le_of_ble_eq_true rfl⟩) hP hD hS hA (fun z1 u1 H locs hw1 hP hD hS => ?_)
  have hCX2 : CX y (ad 0) t (xwd y ad iv pv tv (KL y (ad 190) o1 o2 r1 r2 fi F1 F2) u1) := ⟨ad, iv, pv, tv, o1, o2, r1, r2, fi, F1, F2, u1, rfl, rfl, hw1.1, hKI, (congrArg Int32.toInt hw1.2).trans hC22⟩
  refine lv_pop hx hb dL_law_332 rfl ?_
  refine lv_aload_n hx hb dL_law_333 rfl (lv_at hl 1 rfl) ?_
  refine x_calliB (X := mwd y am zw σ) (pl := (xwd y ad iv pv tv (KL y (ad 190) o1 o2 r1 r2 fi F1 F2) u1)) (w1 := fun (u : Int32 × (Nat → Int64) × (Nat → Int64)) => mwd y am zw (tJ (tJ (sI σ 47 u.1) 45 u.2.1) 46 u.2.2)) (va_runV (As := []) (rest := []) ⟨hx, hb, hml, hown, hts⟩ (q_undo l D y H.size am zw σ hd.1 hd.2.1 hd.2.2 hB49 hB50 hB51 hB52 hB53 hB45 hB46) (cwV 0 hts gl_13 rfl rfl rfl (by decide +kernel) ⟨Nat.le_of_ble_eq_true rfl, Nat.le_of_ble_eq_true rfl⟩) (x_preV (q := (RX12, TX12, 85)) hK (x_rP hP) (x_rD hD) (ci := 11) (q0 := 0) rfl rfl) rfl rfl hl.1 rfl (lv_room (Nat.le_of_ble_eq_true rfl)) dL_law_334 ⟨Nat.le_of_ble_eq_true rfl, Nat.le_of_ble_eq_true rfl⟩) hP hD hS hA (fun z2 u2 H locs hw2 hP hD hS => ?_)
  obtain ⟨⟨k0, k1⟩, k2, k3⟩ := hw2
  have hRI2 : RI (tJ (tJ (sI σ 47 u2.1) 45 u2.2.1) 46 u2.2.2) := ⟨ht, ⟨k0, k1, hd.2.2⟩, hg, hPG, hop, hB49, hB62, hB63, hB25, hB64, hB65, hB26, hB35, hB80, hB50, hB51, hB52, hB53, k2, k3, hB55, hB56, hB57, hB58, hB75, hB76⟩
  have hRX2 : RX y (am 1) t (mwd y am zw (tJ (tJ (sI σ 47 u2.1) 45 u2.2.1) 46 u2.2.2)) := ⟨am, zw, _, rfl, rfl, hRI2, hAT, hR1⟩
  refine lv_pop hx hb dL_law_337 rfl ?_
  refine lv_goto (tgt := 951) hx hb dL_law_338 (by decide) ?_
  exact kk _ _ _ _ _ _ hCX2 hRX2 hP hD hS hl
set_option maxHeartbeats 4000000 in
set_option maxRecDepth 100000 in
theorem law_case_7 {D : va_G} {y : Nat → ClassId} {p : Program} {e : Env} {s : State} {m : MethodId} {below : List Frame} {meth : Method} {c : Code} (l : Launch) {b L : Nat} {xs : Nat → Int32} {A : Nat → Prop} {H : Heap} {locs : List Loc} {ls : Array Slot} {h0 h1 : Nat} {t : Int} {X Y : va_W} {i : Int32} (C0 : lw_At p s m meth c b L xs) (hL : L ≤ 3072) (hAl : ∀ q, A q → s.heap.size ≤ q) (hbA : ¬ A b) (hA : ∀ q, s.heap.size ≤ q → A q) (hK : va_K D vwCl (xT y) s) (hi0 : 0 ≤ i.toInt) (hi1 : i.toInt + 6 ≤ (L : Int)) (hCX : CX y h0 t X) (hRX : RX y h1 t Y) (hP : va_P D vwCl (X ++ Y) H) (hD : va_D A (X ++ Y)) (hS : va_S A s.heap H locs) (hl : lv_has ls 4 [(3, .int i), (2, .ref h1), (1, .ref h0), (0, .ref b)]) (kk : ∀ (t : Int) (X Y : va_W) (H : Heap) (locs : List Loc) (ls : Array Slot), CX y h0 t X → RX y h1 t Y → va_P D vwCl (X ++ Y) H → va_D A (X ++ Y) → va_S A s.heap H locs → lv_has ls 4 [(3, .int i), (2, .ref h1), (1, .ref h0), (0, .ref b)] → W p l e room_1 s m #[Value.ref b] below meth c H locs 135 68060 (lw_Z below #[Value.ref b] s) (F0 m 951 ls [])) : W p l e room_1 s m #[Value.ref b] below meth c H locs 135 68060 (lw_Z below #[Value.ref b] s) (F0 m 341 ls []) := by
  obtain ⟨hx, hb, hr, hml, hown, hts, hX, hbl, hlocks, hgv⟩ := id C0
  have hown : s.vm.findClass RL = some m.cls := hown
  obtain ⟨ad, iv, pv, tv, o1, o2, r1, r2, fi, F1, F2, τ, rfl, rfl, hXI, hKI, hC22⟩ := hCX
  obtain ⟨am, zw, σ, rfl, rfl, hRI, hAT, hR1⟩ := hRX
  obtain ⟨ht, hd, hg, hPG, hop, hB49, hB62, hB63, hB25, hB64, hB65, hB26, hB35, hB80, hB50, hB51, hB52, hB53, hB45, hB46, hB55, hB56, hB57, hB58, hB75, hB76⟩ := id hRI
  refine lv_aload_n hx hb dL_law_341 rfl (lv_at hl 2 rfl) ?_
  refine x_calliA (X := (xwd y ad iv pv tv (KL y (ad 190) o1 o2 r1 r2 fi F1 F2) τ)) (pl := mwd y am zw σ) (w1 := fun (u : OS) => xwd y ad iv pv tv (KL y (ad 190) o1 o2 r1 r2 fi F1 F2) u) (va_runV (As := []) (rest := []) ⟨hx, hb, hml, hown, hts⟩ (x_m_redo l D y H.size ad iv pv tv (KL y (ad 190) o1 o2 r1 r2 fi F1 F2) τ  hXI) (cwV 0 hts gl_14 rfl rfl rfl (by decide +kernel) ⟨Nat.le_of_ble_eq_true rfl, Nat.le_of_ble_eq_true rfl⟩) (x_preV (q := (RX11, TX11, 11)) hK (x_lP hP) (x_lD hD) (ci := 10) (q0 := 0) rfl rfl) rfl rfl hl.1 rfl (lv_room (Nat.le_of_ble_eq_true rfl)) dL_law_342 ⟨Nat.le_of_ble_eq_true rfl, Nat.le_of_ble_eq_true rfl⟩) hP hD hS hA (fun z1 u1 H locs hw1 hP hD hS => ?_)
  have hCX2 : CX y (ad 0) t (xwd y ad iv pv tv (KL y (ad 190) o1 o2 r1 r2 fi F1 F2) u1) := ⟨ad, iv, pv, tv, o1, o2, r1, r2, fi, F1, F2, u1, rfl, rfl, hw1.1, hKI, (congrArg Int32.toInt hw1.2).trans hC22⟩
  refine lv_pop hx hb dL_law_345 rfl ?_
  refine lv_aload_n hx hb dL_law_346 rfl (lv_at hl 1 rfl) ?_
  refine x_calliB (X := mwd y am zw σ) (pl := (xwd y ad iv pv tv (KL y (ad 190) o1 o2 r1 r2 fi F1 F2) u1)) (w1 := fun (u : Int32 × (Nat → Int64) × (Nat → Int64)) => mwd y am zw (tJ (tJ (sI σ 47 u.1) 45 u.2.1) 46 u.2.2)) (va_runV (As := []) (rest := []) ⟨hx, hb, hml, hown, hts⟩ (q_redo l D y H.size am zw σ hd.1 hd.2.1 hd.2.2 hB49 hB50 hB51 hB52 hB53 hB45 hB46) (cwV 0 hts gl_15 rfl rfl rfl (by decide +kernel) ⟨Nat.le_of_ble_eq_true rfl, Nat.le_of_ble_eq_true rfl⟩) (x_preV (q := (RX12, TX12, 85)) hK (x_rP hP) (x_rD hD) (ci := 11) (q0 := 0) rfl rfl) rfl rfl hl.1 rfl (lv_room (Nat.le_of_ble_eq_true rfl)) dL_law_347 ⟨Nat.le_of_ble_eq_true rfl, Nat.le_of_ble_eq_true rfl⟩) hP hD hS hA (fun z2 u2 H locs hw2 hP hD hS => ?_)
  obtain ⟨⟨k0, k1⟩, k2, k3⟩ := hw2
  have hRI2 : RI (tJ (tJ (sI σ 47 u2.1) 45 u2.2.1) 46 u2.2.2) := ⟨ht, ⟨k0, k1, hd.2.2⟩, hg, hPG, hop, hB49, hB62, hB63, hB25, hB64, hB65, hB26, hB35, hB80, hB50, hB51, hB52, hB53, k2, k3, hB55, hB56, hB57, hB58, hB75, hB76⟩
  have hRX2 : RX y (am 1) t (mwd y am zw (tJ (tJ (sI σ 47 u2.1) 45 u2.2.1) 46 u2.2.2)) := ⟨am, zw, _, rfl, rfl, hRI2, hAT, hR1⟩
  refine lv_pop hx hb dL_law_350 rfl ?_
  refine lv_goto (tgt := 951) hx hb dL_law_351 (by decide) ?_
  exact kk _ _ _ _ _ _ hCX2 hRX2 hP hD hS hl
