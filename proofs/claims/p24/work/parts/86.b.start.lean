theorem x_acl {args : Array Value} {s : State} {ty : FieldType} (h : (Cond.arrayClass ty).before args s = true) : ∃ cA : ClassId, ArrOfT s cA ty ∧ s.vm.findClass ("[" ++ ty.toString) = some cA := by
  obtain ⟨c, k, comp, h1, h2, h3⟩ := Cond.arrayClass_spec h
  exact ⟨c, fun n z => ⟨fun q hq => (by cases hq), k, h2, comp, h3⟩, h1⟩
theorem x_acl2 {s : State} (h : va_AOA .int s) : ∃ cA : ClassId, ArrOfT s cA (.array .int) ∧ s.vm.findClass ("[" ++ (FieldType.array FieldType.int).toString) = some cA := by
  obtain ⟨comp, c, k, h1, h2, h3, h4, h5⟩ := arrayOver_specB h
  exact ⟨c, fun n z => ⟨fun q hq => (by cases hq), k, h3, comp, h4⟩, h5⟩
theorem x_el : ∀ j : Nat, j < 60 → (flatC (Cond.and given_1 narrow_1))[j + 13]? = some (Cond.eq (.elem (.field (Term.string "SlopeRunner$Tokens" 25) "java/lang/String" "value" "[B") (.int (Int32.ofNat j))) (.int (xBy.getD j 0))) := by decide +kernel
/-- what lies beside the world at the law's entry -/
theorem law_E {s : State} {b : Nat} {A : Nat → Prop} (hts : ∀ w ∈ lw_tbl, w.before #[Value.ref b] s = true) (hgv : (Jvm.Cond.and given_1 narrow_1).before #[Value.ref b] s = true) (hnA : ∀ a : Nat, a < s.heap.size → ¬ A a) : ∃ (a v : Nat) (o : Option Nat), xE a v o A s := by
  have hs := flat_of_before _ hgv
  have g1 : ∀ i : Nat, i < 1 → ([60] : List Nat).getD i 0 < 2 ^ 31 := by
    intro i hi
    obtain rfl : i = 0 := by omega
    decide
  have g5 : ∀ i : Nat, i < 1 → (Cond.eq (.length (.field (Term.string "SlopeRunner$Tokens" 25) "java/lang/String" "value" "[B")) (.int (Int32.ofNat (([60] : List Nat).getD i 0)))).before #[Value.ref b] s = true := by
    intro i hi
    obtain rfl : i = 0 := by omega
    exact hs _ (List.mem_of_getElem? (i := 12) (by decide +kernel))
  have g6 : ∀ i : Nat, i < 1 → ∀ j : Nat, j < ([60] : List Nat).getD i 0 → (Cond.eq (.elem (.field (Term.string "SlopeRunner$Tokens" 25) "java/lang/String" "value" "[B") (.int (Int32.ofNat j))) (.int ((([xBy] : List (List Int32)).getD i []).getD j 0))).before #[Value.ref b] s = true := by
    intro i hi j hj
    obtain rfl : i = 0 := by omega
    exact hs _ (List.mem_of_getElem? (i := j + 13) (x_el j hj))
  obtain ⟨adK, adV, hSt, hTm⟩ := vk_Sof (N := 1) (tm := fun _ => (Term.string "SlopeRunner$Tokens" 25)) (len := [60]) (byt := [xBy]) (A := A) (args := #[Value.ref b]) (s := s) g1 (fun i _ => hs _ (List.mem_of_getElem? (i := 9) (by decide +kernel))) (fun i _ => hs _ (List.mem_of_getElem? (i := 10) (by decide +kernel))) (fun i _ => hs _ (List.mem_of_getElem? (i := 11) (by decide +kernel))) g5 g6 (fun i j hi hj h => absurd (by omega) h) hnA
  have hS1 : vk_S 1 [60] [xBy] (fun _ => adK 0) (fun _ => adV 0) A s s.heap := by
    refine ⟨fun i hi => ?_, fun i j hi hj _ => by omega⟩
    obtain rfl : i = 0 := by omega
    exact hSt.1 0 (by decide)
  have hR1 : vk_R RX10 25 xTx (adK 0) s := vk_R.of (A := #[Value.ref b]) (hts (.stringRef RX10 25 xTx) (show _ ∈ lw_tbl from List.mem_append_right _ (show _ ∈ tables_1 from (List.mem_append_left _ (List.mem_of_getElem? (i := 55) rfl))))) (hTm 0 (by decide))
  have hZ1 : va_Z "java/lang/String" "COMPACT_STRINGS" "Z" (.int 1) A s s.heap := va_Zof (hts (.laysStatic "java/lang/String" "COMPACT_STRINGS" "Z") (show _ ∈ lw_tbl from List.mem_append_right _ (show _ ∈ tables_1 from (List.mem_append_left _ (List.mem_of_getElem? (i := 65) rfl))))) (hts (.initialized RJ0) lx_0) (va_eqi (hs (Cond.eq (.static "java/lang/String" "COMPACT_STRINGS" "Z") (.int 1)) (List.mem_of_getElem? (i := 4) (by decide +kernel)))) hnA
  obtain ⟨v, hv, hvr⟩ := Cond.isRef_spec (hs (Cond.isRef (.static "jdk/internal/util/Preconditions" "SIOOBE_FORMATTER" "Ljava/util/function/BiFunction;")) (List.mem_of_getElem? (i := 5) (by decide +kernel)))
  have hN : ∀ x ∈ xNl, va_Nw (.methodLinkNest RX11 x.1 x.2 "SlopeRunner") s := by
    unfold xNl
    exact (List.forall_mem_cons.mpr ⟨va_Nw.of rfl (hts (.methodLinkNest RX11 9 yX9_init "SlopeRunner") (show _ ∈ lw_tbl from List.mem_append_right _ (show _ ∈ tables_1 from (List.mem_append_left _ (List.mem_of_getElem? (i := 31) rfl))))), (List.forall_mem_cons.mpr ⟨va_Nw.of rfl (hts (.methodLinkNest RX11 18 yX5_init "SlopeRunner") (show _ ∈ lw_tbl from List.mem_append_right _ (show _ ∈ tables_1 from (List.mem_append_left _ (List.mem_of_getElem? (i := 45) rfl))))), (List.forall_mem_cons.mpr ⟨va_Nw.of rfl (hts (.methodLinkNest RX11 25 yX2_init "SlopeRunner") (show _ ∈ lw_tbl from List.mem_append_right _ (show _ ∈ tables_1 from (List.mem_append_left _ (List.mem_of_getElem? (i := 155) rfl))))), (List.forall_mem_cons.mpr ⟨va_Nw.of rfl (hts (.methodLinkNest RX11 32 yX4_init "SlopeRunner") (show _ ∈ lw_tbl from List.mem_append_right _ (show _ ∈ tables_1 from (List.mem_append_left _ (List.mem_of_getElem? (i := 184) rfl))))), (List.forall_mem_cons.mpr ⟨va_Nw.of rfl (hts (.methodLinkNest RX11 39 yX7_init "SlopeRunner") (show _ ∈ lw_tbl from List.mem_append_right _ (show _ ∈ tables_1 from (List.mem_append_left _ (List.mem_of_getElem? (i := 209) rfl))))), (List.forall_mem_cons.mpr ⟨va_Nw.of rfl (hts (.methodLinkNest RX11 46 yX1_init "SlopeRunner") (show _ ∈ lw_tbl from List.mem_append_right _ (show _ ∈ tables_1 from (List.mem_append_left _ (List.mem_of_getElem? (i := 232) rfl))))), (List.forall_mem_cons.mpr ⟨va_Nw.of rfl (hts (.methodLinkNest RX11 53 yX3_init "SlopeRunner") (show _ ∈ lw_tbl from List.mem_append_right _ (show _ ∈ tables_1 from (List.mem_append_right _ (List.mem_append_left _ (List.mem_of_getElem? (i := 8) rfl)))))), (List.forall_mem_cons.mpr ⟨va_Nw.of rfl (hts (.methodLinkNest RX11 60 yX8_init "SlopeRunner") (show _ ∈ lw_tbl from List.mem_append_right _ (show _ ∈ tables_1 from (List.mem_append_right _ (List.mem_append_left _ (List.mem_of_getElem? (i := 26) rfl)))))), (List.forall_mem_cons.mpr ⟨va_Nw.of rfl (hts (.methodLinkNest RX11 70 yX6_init "SlopeRunner") (show _ ∈ lw_tbl from List.mem_append_right _ (show _ ∈ tables_1 from (List.mem_append_right _ (List.mem_append_left _ (List.mem_of_getElem? (i := 88) rfl)))))), (fun _ h9 => absurd h9 List.not_mem_nil)⟩)⟩)⟩)⟩)⟩)⟩)⟩)⟩)⟩)
  have hO : va_AOA .int s := va_AOA.of (hts (.arrayOver (.array .int)) (show _ ∈ lw_tbl from List.mem_append_right _ (show _ ∈ tables_1 from (List.mem_append_right _ (List.mem_append_left _ (List.mem_of_getElem? (i := 13) rfl))))))
  cases v with
  | ref q => exact ⟨adK 0, adV 0, some q, hR1, hS1, hZ1, va_Zof (hts (.laysStatic "jdk/internal/util/Preconditions" "SIOOBE_FORMATTER" "Ljava/util/function/BiFunction;") (show _ ∈ lw_tbl from List.mem_append_right _ (show _ ∈ tables_1 from (List.mem_append_left _ (List.mem_of_getElem? (i := 81) rfl))))) (hts (.initialized RJ3) lx_1) hv hnA, hO, hN⟩
  | null => exact ⟨adK 0, adV 0, none, hR1, hS1, hZ1, va_Zof (hts (.laysStatic "jdk/internal/util/Preconditions" "SIOOBE_FORMATTER" "Ljava/util/function/BiFunction;") (show _ ∈ lw_tbl from List.mem_append_right _ (show _ ∈ tables_1 from (List.mem_append_left _ (List.mem_of_getElem? (i := 81) rfl))))) (hts (.initialized RJ3) lx_1) hv hnA, hO, hN⟩
  | _ => simp [Value.isRef] at hvr
set_option maxHeartbeats 4000000 in
set_option maxRecDepth 100000 in
theorem law_D {s : State} {b : Nat} (hts : ∀ w ∈ lw_tbl, w.before #[Value.ref b] s = true) : ∃ D : va_G, ∀ (k : Nat) (q : vw_C), vwCl[k]? = some q → u_Kn s q.1 q.2.1 q.2.2 (D.1 k) (D.2 k) := by
  obtain ⟨cX1, iX1, hX1⟩ := u_known (C := RX1) (T := TX1) (N := 3) (n := 3) hts inX1 (hts (.instantiable RX1 3) lx_2)
  obtain ⟨cX2, iX2, hX2⟩ := u_known (C := RX2) (T := TX2) (N := 7) (n := 7) hts inX2 (hts (.instantiable RX2 7) lx_3)
  obtain ⟨cX3, iX3, hX3⟩ := u_known (C := RX3) (T := TX3) (N := 3) (n := 3) hts inX3 (hts (.instantiable RX3 3) lx_4)
  obtain ⟨cX4, iX4, hX4⟩ := u_known (C := RX4) (T := TX4) (N := 6) (n := 6) hts inX4 (hts (.instantiable RX4 6) lx_5)
  obtain ⟨cX5, iX5, hX5⟩ := u_known (C := RX5) (T := TX5) (N := 8) (n := 8) hts inX5 (hts (.instantiable RX5 8) lx_6)
  obtain ⟨cX6, iX6, hX6⟩ := u_known (C := RX6) (T := TX6) (N := 13) (n := 13) hts inX6 (hts (.instantiable RX6 13) lx_7)
  obtain ⟨cX7, iX7, hX7⟩ := u_known (C := RX7) (T := TX7) (N := 5) (n := 5) hts inX7 (hts (.instantiable RX7 5) lx_8)
  obtain ⟨cX8, iX8, hX8⟩ := u_known (C := RX8) (T := TX8) (N := 13) (n := 13) hts inX8 (hts (.instantiable RX8 13) lx_9)
  obtain ⟨cX9, iX9, hX9⟩ := u_known (C := RX9) (T := TX9) (N := 2) (n := 2) hts inX9 (hts (.instantiable RX9 2) lx_10)
  obtain ⟨cX10, iX10, hX10⟩ := u_known (C := RX10) (T := TX10) (N := 6) (n := 6) hts inX10 (hts (.instantiable RX10 6) lx_11)
  obtain ⟨cX11, iX11, hX11⟩ := u_known (C := RX11) (T := TX11) (N := 11) (n := 11) hts inX11 (hts (.instantiable RX11 11) lx_12)
  obtain ⟨cX12, iX12, hX12⟩ := u_known (C := RX12) (T := TX12) (N := 85) (n := 85) hts inX12 (hts (.instantiable RX12 85) lx_13)
  refine ⟨(fun k => [cX1, cX2, cX3, cX4, cX5, cX6, cX7, cX8, cX9, cX10, cX11, cX12].getD k 0, fun k => [iX1, iX2, iX3, iX4, iX5, iX6, iX7, iX8, iX9, iX10, iX11, iX12].getD k (fun _ => 0)), ?_⟩
  intro k q hq
  match k, hq with
  | 0, hq => cases hq; exact hX1
  | 1, hq => cases hq; exact hX2
  | 2, hq => cases hq; exact hX3
  | 3, hq => cases hq; exact hX4
  | 4, hq => cases hq; exact hX5
  | 5, hq => cases hq; exact hX6
  | 6, hq => cases hq; exact hX7
  | 7, hq => cases hq; exact hX8
  | 8, hq => cases hq; exact hX9
  | 9, hq => cases hq; exact hX10
  | 10, hq => cases hq; exact hX11
  | 11, hq => cases hq; exact hX12
  | k + 12, hq => simp [vwCl] at hq
set_option maxHeartbeats 4000000 in
set_option maxRecDepth 100000 in
theorem law_y {s : State} {b : Nat} (hts : ∀ w ∈ lw_tbl, w.before #[Value.ref b] s = true) (hO : va_AOA .int s) : ∃ y : Nat → ClassId, ∀ (k : Nat) (q : ClassId × FieldType), (xT y)[k]? = some q → ArrOfT s q.1 q.2 ∧ va_RA s q.1 q.2 := by
  obtain ⟨y0, g0⟩ := x_acl (hts (.arrayClass .byte) lx_14)
  obtain ⟨y1, g1⟩ := x_acl (hts (.arrayClass .char) lx_15)
  obtain ⟨y2, g2⟩ := x_acl (hts (.arrayClass .int) lx_16)
  obtain ⟨y3, g3⟩ := x_acl (hts (.arrayClass .long) lx_17)
  obtain ⟨y4, g4⟩ := x_acl (hts (.arrayClass .boolean) lx_18)
  obtain ⟨y5, g5⟩ := x_acl2 hO
  refine ⟨fun k => [y0, y1, y2, y3, y4, y5].getD k 0, ?_⟩
  intro k q hq
  match k, hq with
  | 0, hq => cases hq; exact g0
  | 1, hq => cases hq; exact g1
  | 2, hq => cases hq; exact g2
  | 3, hq => cases hq; exact g3
  | 4, hq => cases hq; exact g4
  | 5, hq => cases hq; exact g5
  | k + 6, hq => simp at hq
set_option maxHeartbeats 4000000 in
set_option maxRecDepth 100000 in
theorem whole_start {p : Program} {e : Env} {s : State} {m : MethodId} {below : List Frame} {meth : Method} {c : Code} (l : Launch) {b L : Nat} {xs : Nat → Int32} (hL : L ≤ 3072) (C0 : lw_At p s m meth c b L xs) : W p l e room_1 s m #[Value.ref b] below meth c s.heap [] 0 0 (lw_Z below #[Value.ref b] s) (entryFrame m ([Value.ref b] : List Value).toArray 4) := by
  obtain ⟨hx, hb, hr, hml, hown, hts, hX, hbl, hlocks, hgv⟩ := id C0
  have hown : s.vm.findClass RL = some m.cls := hown
  obtain ⟨A, eA⟩ : ∃ A : Nat → Prop, A = fun q => s.heap.size ≤ q := ⟨_, rfl⟩
  have hA : ∀ q : Nat, s.heap.size ≤ q → A q := by rw [eA]; exact fun _ h => h
  have hAl : ∀ q : Nat, A q → s.heap.size ≤ q := by rw [eA]; exact fun _ h => h
  have hnA : ∀ a : Nat, a < s.heap.size → ¬ A a := fun a h h2 => absurd (hAl a h2) (Nat.not_le.mpr h)
  have hbA : ¬ A b := hnA b hbl
  clear eA
  obtain ⟨a9, v9, o9, hE⟩ := law_E hts hgv hnA
  obtain ⟨D, hKc⟩ := law_D hts
  obtain ⟨y, hKy⟩ := law_y hts hE.2.2.2.2.1
  have hK : va_K D vwCl (xT y) s := ⟨hKc, hKy⟩
  have hP : va_P D vwCl [] s.heap := fun k q h => by simp at h
  have hD : va_D A [] := ⟨fun i j p q h => by simp at h, fun k q h => by simp at h⟩
  have hS : va_S A s.heap s.heap [] := va_S.rf
  have hl := lv_entry ([.ref b]) (n := 4) (Nat.le_of_ble_eq_true rfl)
  rw [lg_entry_eq]
  generalize (lg_sl ([.ref b]) ++ List.replicate (4 - (lg_sl ([.ref b])).length) Slot.unset).toArray = ls at hl ⊢
  have hl : lv_has ls 4 [(0, .ref b)] := hl
  refine va_new (ci := 10) (fs := [.null, .null, .null, .null, .null, .null, .null, .null, .null, .null, .null]) (C := RX11) (T := TX11) (N := 11) hx hb hts inX11 tyX11 tyX11_ok hown (hts (.classLink RL 7 RX11) lx_19) (hts (.instantiable RX11 11) lx_12) (hts (.initialized RX11) lx_20) hK hP hD hS hA rfl x_dvX11 (Nat.le_of_ble_eq_true rfl) (Nat.le_of_ble_eq_true rfl) dL_law_0 (fun h0 H hP hD hS => ?_)
  have hP : va_P D vwCl ([(h0, .inr (10, [.null, .null, .null, .null, .null, .null, .null, .null, .null, .null, .null]))] ++ []) H := hP
  have hD : va_D A ([(h0, .inr (10, [.null, .null, .null, .null, .null, .null, .null, .null, .null, .null, .null]))] ++ []) := hD
  refine W.widen (k := 1) (n := 11) (Nat.le_of_ble_eq_true rfl) (Nat.le_of_ble_eq_true rfl) ?_
  refine lv_dup hx hb dL_law_3 rfl ?_
  refine x_callvQ (X := [(h0, .inr (10, [.null, .null, .null, .null, .null, .null, .null, .null, .null, .null, .null]))]) (pl := []) (cx := [(h0, .inr (10, [.null, .null, .null, .null, .null, .null, .null, .null, .null, .null, .null]))]) (wr := []) (w1 := fun u => xW y h0 u) (va_runI (As := []) (rest := [.ref h0]) ⟨hx, hb, hml, hown, hts⟩ (c_init l D y H.size a9 v9 o9 h0) (cwI 0 hts gl_46 rfl rfl rfl (hts (.initialized RX11) lx_20) (hts (.methodLink RL 9 yX11_init) lx_21) (hts (.instanceMethod yX11_init) lx_22) rfl (by decide +kernel) ⟨Nat.le_of_ble_eq_true rfl, Nat.le_of_ble_eq_true rfl⟩) (x_preSE hK (x_subP hP [0] rfl) (x_subD hD [0] rfl (by decide)) hE hS (va_free hD hS hA [0] rfl)) rfl rfl hl.1 rfl (lv_room (Nat.le_of_ble_eq_true rfl)) dL_law_4 ⟨Nat.le_of_ble_eq_true rfl, Nat.le_of_ble_eq_true rfl⟩) hP hD hS hA [0] [] rfl rfl rfl (by decide) (by decide) (fun u H locs hw hP hD hS => ?_)
  obtain ⟨za, r1, r2, ow⟩ := u
  rw [List.append_nil, List.nil_append] at hP hD
  refine W.widen (k := 77) (n := 26748) (Nat.le_of_ble_eq_true rfl) (Nat.le_of_ble_eq_true rfl) ?_
  refine lv_astore_n (lv' := [(1, .ref h0), (0, .ref b)]) hx hb dL_law_7 rfl hl (by decide) rfl (fun ls hl => ?_)
  refine va_new (ci := 11) (fs := [.null, .int 0, .int 0, .int 0, .int 0, .int 0, .int 0, .int 0, .int 0, .null, .null, .null, .null, .null, .null, .null, .null, .null, .null, .null, .null, .null, .null, .int 0, .null, .null, .null, .null, .null, .int 0, .null, .int 0, .int 0, .int 0, .null, .null, .null, .null, .null, .int 0, .int 0, .null, .long 0, .long 0, .int 0, .null, .null, .int 0, .int 0, .null, .null, .null, .null, .null, .int 0, .null, .null, .null, .null, .null, .null, .null, .null, .null, .null, .null, .null, .null, .int 0, .long 0, .long 0, .null, .null, .int 0, .null, .null, .null, .null, .int 0, .int 0, .null, .null, .int 0, .null, .null]) (C := RX12) (T := TX12) (N := 85) hx hb hts inX12 tyX12 tyX12_ok hown (hts (.classLink RL 10 RX12) lx_23) (hts (.instantiable RX12 85) lx_13) (hts (.initialized RX12) lx_24) hK hP hD hS hA rfl x_dvX12 (Nat.le_of_ble_eq_true rfl) (Nat.le_of_ble_eq_true rfl) dL_law_8 (fun h1 H hP hD hS => ?_)
  have hP : va_P D vwCl ([(h1, .inr (11, [.null, .int 0, .int 0, .int 0, .int 0, .int 0, .int 0, .int 0, .int 0, .null, .null, .null, .null, .null, .null, .null, .null, .null, .null, .null, .null, .null, .null, .int 0, .null, .null, .null, .null, .null, .int 0, .null, .int 0, .int 0, .int 0, .null, .null, .null, .null, .null, .int 0, .int 0, .null, .long 0, .long 0, .int 0, .null, .null, .int 0, .int 0, .null, .null, .null, .null, .null, .int 0, .null, .null, .null, .null, .null, .null, .null, .null, .null, .null, .null, .null, .null, .int 0, .long 0, .long 0, .null, .null, .int 0, .null, .null, .null, .null, .int 0, .int 0, .null, .null, .int 0, .null, .null]))] ++ xW y h0 (za, r1, r2, ow)) H := va_P.swap (a := []) (b := xW y h0 (za, r1, r2, ow)) (c := [(h1, .inr (11, [.null, .int 0, .int 0, .int 0, .int 0, .int 0, .int 0, .int 0, .int 0, .null, .null, .null, .null, .null, .null, .null, .null, .null, .null, .null, .null, .null, .null, .int 0, .null, .null, .null, .null, .null, .int 0, .null, .int 0, .int 0, .int 0, .null, .null, .null, .null, .null, .int 0, .int 0, .null, .long 0, .long 0, .int 0, .null, .null, .int 0, .int 0, .null, .null, .null, .null, .null, .int 0, .null, .null, .null, .null, .null, .null, .null, .null, .null, .null, .null, .null, .null, .int 0, .long 0, .long 0, .null, .null, .int 0, .null, .null, .null, .null, .int 0, .int 0, .null, .null, .int 0, .null, .null]))]) hP
  have hD : va_D A ([(h1, .inr (11, [.null, .int 0, .int 0, .int 0, .int 0, .int 0, .int 0, .int 0, .int 0, .null, .null, .null, .null, .null, .null, .null, .null, .null, .null, .null, .null, .null, .null, .int 0, .null, .null, .null, .null, .null, .int 0, .null, .int 0, .int 0, .int 0, .null, .null, .null, .null, .null, .int 0, .int 0, .null, .long 0, .long 0, .int 0, .null, .null, .int 0, .int 0, .null, .null, .null, .null, .null, .int 0, .null, .null, .null, .null, .null, .null, .null, .null, .null, .null, .null, .null, .null, .int 0, .long 0, .long 0, .null, .null, .int 0, .null, .null, .null, .null, .int 0, .int 0, .null, .null, .int 0, .null, .null]))] ++ xW y h0 (za, r1, r2, ow)) := va_D.swap (a := []) (b := xW y h0 (za, r1, r2, ow)) (c := [(h1, .inr (11, [.null, .int 0, .int 0, .int 0, .int 0, .int 0, .int 0, .int 0, .int 0, .null, .null, .null, .null, .null, .null, .null, .null, .null, .null, .null, .null, .null, .null, .int 0, .null, .null, .null, .null, .null, .int 0, .null, .int 0, .int 0, .int 0, .null, .null, .null, .null, .null, .int 0, .int 0, .null, .long 0, .long 0, .int 0, .null, .null, .int 0, .int 0, .null, .null, .null, .null, .null, .int 0, .null, .null, .null, .null, .null, .null, .null, .null, .null, .null, .null, .null, .null, .int 0, .long 0, .long 0, .null, .null, .int 0, .null, .null, .null, .null, .int 0, .int 0, .null, .null, .int 0, .null, .null]))]) hD
  refine W.widen (k := 78) (n := 26833) (Nat.le_of_ble_eq_true rfl) (Nat.le_of_ble_eq_true rfl) ?_
  refine lv_dup hx hb dL_law_11 rfl ?_
  refine x_callvQ (X := [(h1, .inr (11, [.null, .int 0, .int 0, .int 0, .int 0, .int 0, .int 0, .int 0, .int 0, .null, .null, .null, .null, .null, .null, .null, .null, .null, .null, .null, .null, .null, .null, .int 0, .null, .null, .null, .null, .null, .int 0, .null, .int 0, .int 0, .int 0, .null, .null, .null, .null, .null, .int 0, .int 0, .null, .long 0, .long 0, .int 0, .null, .null, .int 0, .int 0, .null, .null, .null, .null, .null, .int 0, .null, .null, .null, .null, .null, .null, .null, .null, .null, .null, .null, .null, .null, .int 0, .long 0, .long 0, .null, .null, .int 0, .null, .null, .null, .null, .int 0, .int 0, .null, .null, .int 0, .null, .null]))]) (pl := xW y h0 (za, r1, r2, ow)) (cx := [(h1, .inr (11, [.null, .int 0, .int 0, .int 0, .int 0, .int 0, .int 0, .int 0, .int 0, .null, .null, .null, .null, .null, .null, .null, .null, .null, .null, .null, .null, .null, .null, .int 0, .null, .null, .null, .null, .null, .int 0, .null, .int 0, .int 0, .int 0, .null, .null, .null, .null, .null, .int 0, .int 0, .null, .long 0, .long 0, .int 0, .null, .null, .int 0, .int 0, .null, .null, .null, .null, .null, .int 0, .null, .null, .null, .null, .null, .null, .null, .null, .null, .null, .null, .null, .null, .int 0, .long 0, .long 0, .null, .null, .int 0, .null, .null, .null, .null, .int 0, .int 0, .null, .null, .int 0, .null, .null]))]) (wr := []) (w1 := fun u => mW y h1 u) (va_runI (As := []) (rest := [.ref h1]) ⟨hx, hb, hml, hown, hts⟩ (m_init l D y H.size h1) (cwI 0 hts gl_47 rfl rfl rfl (hts (.initialized RX12) lx_24) (hts (.methodLink RL 12 yX12_init) lx_25) (hts (.instanceMethod yX12_init) lx_26) rfl (by decide +kernel) ⟨Nat.le_of_ble_eq_true rfl, Nat.le_of_ble_eq_true rfl⟩) (x_preS hK (x_subP hP [0] rfl) (x_subD hD [0] rfl (by decide))) rfl rfl hl.1 rfl (lv_room (Nat.le_of_ble_eq_true rfl)) dL_law_12 ⟨Nat.le_of_ble_eq_true rfl, Nat.le_of_ble_eq_true rfl⟩) hP hD hS hA [0] [] rfl rfl rfl (by decide) (by decide) (fun u H locs hw hP hD hS => ?_)
  obtain ⟨zb, zw, ub⟩ := u
  rw [List.nil_append] at hP hD
  refine W.widen (k := 135) (n := 68060) (Nat.le_of_ble_eq_true rfl) (Nat.le_of_ble_eq_true rfl) ?_
  refine lv_astore_n (lv' := [(2, .ref h1), (1, .ref h0), (0, .ref b)]) hx hb dL_law_15 rfl hl (by decide) rfl (fun ls hl => ?_)
  refine lv_iconst (v := 0) hx hb dL_law_16 (by decide) ?_
  refine lv_istore_n (lv' := [(3, .int 0), (2, .ref h1), (1, .ref h0), (0, .ref b)]) hx hb dL_law_17 rfl hl (by decide) rfl (fun ls hl => ?_)
  obtain ⟨X, Y, hCX, hRX, hP, hD⟩ := law_join hP hD hw
  exact law_loop l C0 hL hAl hbA hA hK 600 0 0 X Y H locs ls (by decide) (by decide) (by have e : (0 : Int32).toInt = 0 := rfl; omega) hCX hRX hP hD hS hl
