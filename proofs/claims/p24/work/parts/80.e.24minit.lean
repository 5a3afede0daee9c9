def v_m_init : List Cond := .code yX12_init cX12_init 1 none :: ([.fieldLink RX12 7 "SlopeRunnerModel" "tape" "[I", .fieldLink RX12 13 "SlopeRunnerModel" "faultPlace" "I", .fieldLink RX12 17 "SlopeRunnerModel" "inputWord" "[C", .fieldLink RX12 21 "SlopeRunnerModel" "rowWord" "[C", .fieldLink RX12 24 "SlopeRunnerModel" "varWord" "[C", .fieldLink RX12 27 "SlopeRunnerModel" "setWord" "[C", .fieldLink RX12 30 "SlopeRunnerModel" "giveWord" "[C", .fieldLink RX12 33 "SlopeRunnerModel" "ifWord" "[C", .fieldLink RX12 36 "SlopeRunnerModel" "elseWord" "[C", .fieldLink RX12 39 "SlopeRunnerModel" "whileWord" "[C", .fieldLink RX12 42 "SlopeRunnerModel" "andWord" "[C", .fieldLink RX12 45 "SlopeRunnerModel" "orWord" "[C", .fieldLink RX12 48 "SlopeRunnerModel" "notWord" "[C", .fieldLink RX12 51 "SlopeRunnerModel" "absWord" "[C", .fieldLink RX12 54 "SlopeRunnerModel" "minWord" "[C", .fieldLink RX12 57 "SlopeRunnerModel" "maxWord" "[C", .fieldLink RX12 60 "SlopeRunnerModel" "has" "[I", .fieldLink RX12 63 "SlopeRunnerModel" "sizeOf" "[I", .fieldLink RX12 66 "SlopeRunnerModel" "numbers" "[I", .fieldLink RX12 69 "SlopeRunnerModel" "codes" "[I", .fieldLink RX12 72 "SlopeRunnerModel" "codeMany" "[I", .fieldLink RX12 75 "SlopeRunnerModel" "wait" "[I", .fieldLink RX12 78 "SlopeRunnerModel" "named" "[J", .fieldLink RX12 82 "SlopeRunnerModel" "namedAs" "[I", .fieldLink RX12 85 "SlopeRunnerModel" "blockSort" "[I", .fieldLink RX12 88 "SlopeRunnerModel" "blockFrom" "[I", .fieldLink RX12 91 "SlopeRunnerModel" "blockJump" "[I", .fieldLink RX12 94 "SlopeRunnerModel" "moved" "[I", .fieldLink RX12 97 "SlopeRunnerModel" "putAbove" "[J", .fieldLink RX12 100 "SlopeRunnerModel" "putBelow" "[J", .fieldLink RX12 103 "SlopeRunnerModel" "doneInput" "[I", .fieldLink RX12 106 "SlopeRunnerModel" "wasAbove" "[J", .fieldLink RX12 109 "SlopeRunnerModel" "wasBelow" "[J", .fieldLink RX12 112 "SlopeRunnerModel" "isAbove" "[J", .fieldLink RX12 115 "SlopeRunnerModel" "isBelow" "[J", .fieldLink RX12 118 "SlopeRunnerModel" "runAbove" "[J", .fieldLink RX12 121 "SlopeRunnerModel" "runBelow" "[J", .fieldLink RX12 124 "SlopeRunnerModel" "valueAbove" "[J", .fieldLink RX12 127 "SlopeRunnerModel" "valueBelow" "[J", .fieldLink RX12 130 "SlopeRunnerModel" "op" "[I", .fieldLink RX12 133 "SlopeRunnerModel" "first" "[I", .fieldLink RX12 136 "SlopeRunnerModel" "second" "[I", .fieldLink RX12 139 "SlopeRunnerModel" "laid" "[I", .fieldLink RX12 142 "SlopeRunnerModel" "steps" "[I", .fieldLink RX12 145 "SlopeRunnerModel" "results" "[I", .fieldLink RX12 148 "SlopeRunnerModel" "resultAt" "[I", .fieldLink RX12 151 "SlopeRunnerModel" "edges" "[I", .fieldLink RX12 154 "SlopeRunnerModel" "state" "[I", .fieldLink RX12 157 "SlopeRunnerModel" "held" "[I", .fieldLink RX12 160 "SlopeRunnerModel" "pile" "[I", .fieldLink RX12 163 "SlopeRunnerModel" "hangs" "[Z", .fieldLink RX12 167 "SlopeRunnerModel" "slopeUp" "[J", .fieldLink RX12 170 "SlopeRunnerModel" "slopeDown" "[J", .fieldLink RX12 173 "SlopeRunnerModel" "way" "[J", .fieldLink RX12 176 "SlopeRunnerModel" "groupOf" "[I", .fieldLink RX12 179 "SlopeRunnerModel" "apart" "[I", .fieldLink RX12 182 "SlopeRunnerModel" "again" "[I", .fieldLink RX12 185 "SlopeRunnerModel" "firstKept" "[I", .methodLink RX12 1 objectInit, .instanceMethod objectInit, .code objectInit ⟨#[0xb1]⟩ 1 none, .arrayClass .int, .arrayClass .char, .arrayClass .long, .arrayClass .boolean] ++ wsX120)
set_option maxHeartbeats 4000000 in
set_option maxRecDepth 100000 in
theorem m_init (l : Launch) (D : va_G) (y : Nat → ClassId) (sz : Nat) (h0 : Nat) : Met l yX12_init v_m_init ({ frames := 1, cells := 57, slots := 41227, locals := 12 } : Room) (va_Pc [.ref h0] (xPre D (xT y) [(h0, .inr (11, [.null, .int 0, .int 0, .int 0, .int 0, .int 0, .int 0, .int 0, .int 0, .null, .null, .null, .null, .null, .null, .null, .null, .null, .null, .null, .null, .null, .null, .int 0, .null, .null, .null, .null, .null, .int 0, .null, .int 0, .int 0, .int 0, .null, .null, .null, .null, .null, .int 0, .int 0, .null, .long 0, .long 0, .int 0, .null, .null, .int 0, .int 0, .null, .null, .null, .null, .null, .int 0, .null, .null, .null, .null, .null, .null, .null, .null, .null, .null, .null, .null, .null, .int 0, .long 0, .long 0, .null, .null, .int 0, .null, .null, .null, .null, .int 0, .int 0, .null, .null, .int 0, .null, .null]))] sz)) (va_Qv (fun (u : (Nat → Nat) × (Nat → Nat → Int32) × (Nat → Int64)) => bJ u.2.2 0 1000000000) (fun (u : (Nat → Nat) × (Nat → Nat → Int32) × (Nat → Int64)) => xB D (xT y) (va_A [(h0, .inr (11, [.null, .int 0, .int 0, .int 0, .int 0, .int 0, .int 0, .int 0, .int 0, .null, .null, .null, .null, .null, .null, .null, .null, .null, .null, .null, .null, .null, .null, .int 0, .null, .null, .null, .null, .null, .int 0, .null, .int 0, .int 0, .int 0, .null, .null, .null, .null, .null, .int 0, .int 0, .null, .long 0, .long 0, .int 0, .null, .null, .int 0, .int 0, .null, .null, .null, .null, .null, .int 0, .null, .null, .null, .null, .null, .null, .null, .null, .null, .null, .null, .null, .null, .int 0, .long 0, .long 0, .null, .null, .int 0, .null, .null, .null, .null, .int 0, .int 0, .null, .null, .int 0, .null, .null]))] sz) (mW y h0 u)) (va_A [(h0, .inr (11, [.null, .int 0, .int 0, .int 0, .int 0, .int 0, .int 0, .int 0, .int 0, .null, .null, .null, .null, .null, .null, .null, .null, .null, .null, .null, .null, .null, .null, .int 0, .null, .null, .null, .null, .null, .int 0, .null, .int 0, .int 0, .int 0, .null, .null, .null, .null, .null, .int 0, .int 0, .null, .long 0, .long 0, .int 0, .null, .null, .int 0, .int 0, .null, .null, .null, .null, .null, .int 0, .null, .null, .null, .null, .null, .null, .null, .null, .null, .null, .null, .null, .null, .int 0, .long 0, .long 0, .null, .null, .int 0, .null, .null, .null, .null, .int 0, .int 0, .null, .null, .int 0, .null, .null]))] sz)) 57 41227 (va_A [(h0, .inr (11, [.null, .int 0, .int 0, .int 0, .int 0, .int 0, .int 0, .int 0, .int 0, .null, .null, .null, .null, .null, .null, .null, .null, .null, .null, .null, .null, .null, .null, .int 0, .null, .null, .null, .null, .null, .int 0, .null, .int 0, .int 0, .int 0, .null, .null, .null, .null, .null, .int 0, .int 0, .null, .long 0, .long 0, .int 0, .null, .null, .int 0, .int 0, .null, .null, .null, .null, .null, .int 0, .null, .null, .null, .null, .null, .null, .null, .null, .null, .null, .null, .null, .null, .int 0, .long 0, .long 0, .null, .null, .int 0, .null, .null, .null, .null, .int 0, .int 0, .null, .null, .int 0, .null, .null]))] sz) := by
  refine x_metv (cc := cX12_init) (maxL := 1) (by decide) rfl (Nat.le_of_ble_eq_true rfl) ?_
  intro p e s m below meth c A H locs Q hx hb hml hown hts hr hlocks hmn hA hP hK hD hS ls hl hQ
  have hl : lv_has ls 1 [(0, .ref h0)] := hl
  have fl7 := hts (.fieldLink RX12 7 "SlopeRunnerModel" "tape" "[I") (List.mem_of_getElem? (i := 1) rfl)
  have inX12 : ∀ w ∈ wsX120, w ∈ v_m_init := (fun w h => List.mem_cons_of_mem _ (List.mem_append_right _ h))
  have fl13 := hts (.fieldLink RX12 13 "SlopeRunnerModel" "faultPlace" "I") (List.mem_of_getElem? (i := 2) rfl)
  have fl17 := hts (.fieldLink RX12 17 "SlopeRunnerModel" "inputWord" "[C") (List.mem_of_getElem? (i := 3) rfl)
  have fl21 := hts (.fieldLink RX12 21 "SlopeRunnerModel" "rowWord" "[C") (List.mem_of_getElem? (i := 4) rfl)
  have fl24 := hts (.fieldLink RX12 24 "SlopeRunnerModel" "varWord" "[C") (List.mem_of_getElem? (i := 5) rfl)
  have fl27 := hts (.fieldLink RX12 27 "SlopeRunnerModel" "setWord" "[C") (List.mem_of_getElem? (i := 6) rfl)
  have fl30 := hts (.fieldLink RX12 30 "SlopeRunnerModel" "giveWord" "[C") (List.mem_of_getElem? (i := 7) rfl)
  have fl33 := hts (.fieldLink RX12 33 "SlopeRunnerModel" "ifWord" "[C") (List.mem_of_getElem? (i := 8) rfl)
  have fl36 := hts (.fieldLink RX12 36 "SlopeRunnerModel" "elseWord" "[C") (List.mem_of_getElem? (i := 9) rfl)
  have fl39 := hts (.fieldLink RX12 39 "SlopeRunnerModel" "whileWord" "[C") (List.mem_of_getElem? (i := 10) rfl)
  have fl42 := hts (.fieldLink RX12 42 "SlopeRunnerModel" "andWord" "[C") (List.mem_of_getElem? (i := 11) rfl)
  have fl45 := hts (.fieldLink RX12 45 "SlopeRunnerModel" "orWord" "[C") (List.mem_of_getElem? (i := 12) rfl)
  have fl48 := hts (.fieldLink RX12 48 "SlopeRunnerModel" "notWord" "[C") (List.mem_of_getElem? (i := 13) rfl)
  have fl51 := hts (.fieldLink RX12 51 "SlopeRunnerModel" "absWord" "[C") (List.mem_of_getElem? (i := 14) rfl)
  have fl54 := hts (.fieldLink RX12 54 "SlopeRunnerModel" "minWord" "[C") (List.mem_of_getElem? (i := 15) rfl)
  have fl57 := hts (.fieldLink RX12 57 "SlopeRunnerModel" "maxWord" "[C") (List.mem_of_getElem? (i := 16) rfl)
  have fl60 := hts (.fieldLink RX12 60 "SlopeRunnerModel" "has" "[I") (List.mem_of_getElem? (i := 17) rfl)
  have fl63 := hts (.fieldLink RX12 63 "SlopeRunnerModel" "sizeOf" "[I") (List.mem_of_getElem? (i := 18) rfl)
  have fl66 := hts (.fieldLink RX12 66 "SlopeRunnerModel" "numbers" "[I") (List.mem_of_getElem? (i := 19) rfl)
  have fl69 := hts (.fieldLink RX12 69 "SlopeRunnerModel" "codes" "[I") (List.mem_of_getElem? (i := 20) rfl)
  have fl72 := hts (.fieldLink RX12 72 "SlopeRunnerModel" "codeMany" "[I") (List.mem_of_getElem? (i := 21) rfl)
  have fl75 := hts (.fieldLink RX12 75 "SlopeRunnerModel" "wait" "[I") (List.mem_of_getElem? (i := 22) rfl)
  have fl78 := hts (.fieldLink RX12 78 "SlopeRunnerModel" "named" "[J") (List.mem_of_getElem? (i := 23) rfl)
  have fl82 := hts (.fieldLink RX12 82 "SlopeRunnerModel" "namedAs" "[I") (List.mem_of_getElem? (i := 24) rfl)
  have fl85 := hts (.fieldLink RX12 85 "SlopeRunnerModel" "blockSort" "[I") (List.mem_of_getElem? (i := 25) rfl)
  have fl88 := hts (.fieldLink RX12 88 "SlopeRunnerModel" "blockFrom" "[I") (List.mem_of_getElem? (i := 26) rfl)
  have fl91 := hts (.fieldLink RX12 91 "SlopeRunnerModel" "blockJump" "[I") (List.mem_of_getElem? (i := 27) rfl)
  have fl94 := hts (.fieldLink RX12 94 "SlopeRunnerModel" "moved" "[I") (List.mem_of_getElem? (i := 28) rfl)
  have fl97 := hts (.fieldLink RX12 97 "SlopeRunnerModel" "putAbove" "[J") (List.mem_of_getElem? (i := 29) rfl)
  have fl100 := hts (.fieldLink RX12 100 "SlopeRunnerModel" "putBelow" "[J") (List.mem_of_getElem? (i := 30) rfl)
  have fl103 := hts (.fieldLink RX12 103 "SlopeRunnerModel" "doneInput" "[I") (List.mem_of_getElem? (i := 31) rfl)
  have fl106 := hts (.fieldLink RX12 106 "SlopeRunnerModel" "wasAbove" "[J") (List.mem_of_getElem? (i := 32) rfl)
  have fl109 := hts (.fieldLink RX12 109 "SlopeRunnerModel" "wasBelow" "[J") (List.mem_of_getElem? (i := 33) rfl)
  have fl112 := hts (.fieldLink RX12 112 "SlopeRunnerModel" "isAbove" "[J") (List.mem_of_getElem? (i := 34) rfl)
  have fl115 := hts (.fieldLink RX12 115 "SlopeRunnerModel" "isBelow" "[J") (List.mem_of_getElem? (i := 35) rfl)
  have fl118 := hts (.fieldLink RX12 118 "SlopeRunnerModel" "runAbove" "[J") (List.mem_of_getElem? (i := 36) rfl)
  have fl121 := hts (.fieldLink RX12 121 "SlopeRunnerModel" "runBelow" "[J") (List.mem_of_getElem? (i := 37) rfl)
  have fl124 := hts (.fieldLink RX12 124 "SlopeRunnerModel" "valueAbove" "[J") (List.mem_of_getElem? (i := 38) rfl)
  have fl127 := hts (.fieldLink RX12 127 "SlopeRunnerModel" "valueBelow" "[J") (List.mem_of_getElem? (i := 39) rfl)
  have fl130 := hts (.fieldLink RX12 130 "SlopeRunnerModel" "op" "[I") (List.mem_of_getElem? (i := 40) rfl)
  have fl133 := hts (.fieldLink RX12 133 "SlopeRunnerModel" "first" "[I") (List.mem_of_getElem? (i := 41) rfl)
  have fl136 := hts (.fieldLink RX12 136 "SlopeRunnerModel" "second" "[I") (List.mem_of_getElem? (i := 42) rfl)
  have fl139 := hts (.fieldLink RX12 139 "SlopeRunnerModel" "laid" "[I") (List.mem_of_getElem? (i := 43) rfl)
  have fl142 := hts (.fieldLink RX12 142 "SlopeRunnerModel" "steps" "[I") (List.mem_of_getElem? (i := 44) rfl)
  have fl145 := hts (.fieldLink RX12 145 "SlopeRunnerModel" "results" "[I") (List.mem_of_getElem? (i := 45) rfl)
  have fl148 := hts (.fieldLink RX12 148 "SlopeRunnerModel" "resultAt" "[I") (List.mem_of_getElem? (i := 46) rfl)
  have fl151 := hts (.fieldLink RX12 151 "SlopeRunnerModel" "edges" "[I") (List.mem_of_getElem? (i := 47) rfl)
  have fl154 := hts (.fieldLink RX12 154 "SlopeRunnerModel" "state" "[I") (List.mem_of_getElem? (i := 48) rfl)
  have fl157 := hts (.fieldLink RX12 157 "SlopeRunnerModel" "held" "[I") (List.mem_of_getElem? (i := 49) rfl)
  have fl160 := hts (.fieldLink RX12 160 "SlopeRunnerModel" "pile" "[I") (List.mem_of_getElem? (i := 50) rfl)
  have fl163 := hts (.fieldLink RX12 163 "SlopeRunnerModel" "hangs" "[Z") (List.mem_of_getElem? (i := 51) rfl)
  have fl167 := hts (.fieldLink RX12 167 "SlopeRunnerModel" "slopeUp" "[J") (List.mem_of_getElem? (i := 52) rfl)
  have fl170 := hts (.fieldLink RX12 170 "SlopeRunnerModel" "slopeDown" "[J") (List.mem_of_getElem? (i := 53) rfl)
  have fl173 := hts (.fieldLink RX12 173 "SlopeRunnerModel" "way" "[J") (List.mem_of_getElem? (i := 54) rfl)
  have fl176 := hts (.fieldLink RX12 176 "SlopeRunnerModel" "groupOf" "[I") (List.mem_of_getElem? (i := 55) rfl)
  have fl179 := hts (.fieldLink RX12 179 "SlopeRunnerModel" "apart" "[I") (List.mem_of_getElem? (i := 56) rfl)
  have fl182 := hts (.fieldLink RX12 182 "SlopeRunnerModel" "again" "[I") (List.mem_of_getElem? (i := 57) rfl)
  have fl185 := hts (.fieldLink RX12 185 "SlopeRunnerModel" "firstKept" "[I") (List.mem_of_getElem? (i := 58) rfl)
  obtain ⟨fs0, efs0⟩ : ∃ z : List Value, z = [.null, .int 0, .int 0, .int 0, .int 0, .int 0, .int 0, .int 0, .int 0, .null, .null, .null, .null, .null, .null, .null, .null, .null, .null, .null, .null, .null, .null, .int 0, .null, .null, .null, .null, .null, .int 0, .null, .int 0, .int 0, .int 0, .null, .null, .null, .null, .null, .int 0, .int 0, .null, .long 0, .long 0, .int 0, .null, .null, .int 0, .int 0, .null, .null, .null, .null, .null, .int 0, .null, .null, .null, .null, .null, .null, .null, .null, .null, .null, .null, .null, .null, .int 0, .long 0, .long 0, .null, .null, .int 0, .null, .null, .null, .null, .int 0, .int 0, .null, .null, .int 0, .null, .null] := ⟨_, rfl⟩
  obtain ⟨t0, et0⟩ : ∃ z : va_W, z = [] := ⟨_, rfl⟩
  have xf0 : fs0 = [.null, .int 0, .int 0, .int 0, .int 0, .int 0, .int 0, .int 0, .int 0, .null, .null, .null, .null, .null, .null, .null, .null, .null, .null, .null, .null, .null, .null, .int 0, .null, .null, .null, .null, .null, .int 0, .null, .int 0, .int 0, .int 0, .null, .null, .null, .null, .null, .int 0, .int 0, .null, .long 0, .long 0, .int 0, .null, .null, .int 0, .int 0, .null, .null, .null, .null, .null, .int 0, .null, .null, .null, .null, .null, .null, .null, .null, .null, .null, .null, .null, .null, .int 0, .long 0, .long 0, .null, .null, .int 0, .null, .null, .null, .null, .int 0, .int 0, .null, .null, .int 0, .null, .null] := efs0
  have hlen0 : fs0.length = 85 := by rw [efs0]; rfl
  have hP : va_P D vwCl ((h0, .inr (11, fs0)) :: t0) H := by rw [efs0, et0]; exact hP
  have hD : va_D A ((h0, .inr (11, fs0)) :: t0) := by rw [efs0, et0]; exact hD
  refine lv_aload_n hx hb dX12_init_0 rfl (lv_at hl 0 rfl) ?_
  refine W.objInit hx hb hown (hts (.methodLink RX12 1 objectInit) (List.mem_of_getElem? (i := 59) rfl)) (hts (.instanceMethod objectInit) (List.mem_of_getElem? (i := 60) rfl)) (hts (.code objectInit ⟨#[0xb1]⟩ 1 none) (List.mem_of_getElem? (i := 61) rfl)) rfl (by rw [hml]; exact hl.1) rfl dX12_init_1 (Nat.le_of_ble_eq_true rfl) (Nat.le_of_ble_eq_true rfl) ?_
  refine W.eq (g2 := F0 m 4 ls []) rfl ?_
  refine lv_aload_n hx hb dX12_init_4 rfl (lv_at hl 0 rfl) ?_
  refine lv_sipush (v := 700) hx hb dX12_init_5 (by decide) ?_
  refine x_newa (N' := 700) (a0 := (700, .inl (fun _ => 0))) (t0 := 2) (ty := .int) hx hb (hts (.arrayClass .int) (List.mem_of_getElem? (i := 62) rfl)) rfl rfl hK hP hD hS hA (x_aI 700) (by decide) (by decide) (by decide) (Nat.le_of_ble_eq_true rfl) (Nat.le_of_ble_eq_true rfl) dX12_init_8 (fun q_1 H hP hD hS => ?_)
  have hP : va_P D vwCl ((h0, .inr (11, fs0)) :: (q_1, .inl (y 2, 700, .inl (fun _ => 0))) :: t0) H := va_P.swap (a := [(h0, .inr (11, fs0))]) (b := t0) (c := [(q_1, .inl (y 2, 700, .inl (fun _ => 0)))]) hP
  have hD : va_D A ((h0, .inr (11, fs0)) :: (q_1, .inl (y 2, 700, .inl (fun _ => 0))) :: t0) := va_D.swap (a := [(h0, .inr (11, fs0))]) (b := t0) (c := [(q_1, .inl (y 2, 700, .inl (fun _ => 0)))]) hD
  refine W.widen (k := 1) (n := 700) (Nat.le_of_ble_eq_true rfl) (Nat.le_of_ble_eq_true rfl) ?_
  refine va_putF (D := D) (ci := 11) (v := .ref q_1) (ty := (.array .int)) (C := RX12) (T := TX12) (N := 85) hx hb hts inX12 tyX12 tyX12_ok nmX12 hown hK hP hD hS 0 rfl rfl 0 (by decide) fl7 (fun _ h9 => h9) rfl hmn rfl (by decide +kernel) rfl rfl (by rw [hlen0]; decide) dX12_init_10 (fun H locs hP hD hS => ?_)
  have hP : va_P D vwCl ((h0, .inr (11, (fs0.set 0 (.ref q_1)))) :: (q_1, .inl (y 2, 700, .inl (fun _ => 0))) :: t0) H := hP
  have hD : va_D A ((h0, .inr (11, (fs0.set 0 (.ref q_1)))) :: (q_1, .inl (y 2, 700, .inl (fun _ => 0))) :: t0) := hD
  obtain ⟨fs1, efs1⟩ : ∃ z : List Value, z = (fs0.set 0 (.ref q_1)) := ⟨_, rfl⟩
  rw [← efs1] at hP hD
  have hlen1 : fs1.length = 85 := by rw [efs1, List.length_set]; exact hlen0
  have xf1 : fs1 = [.ref q_1, .int 0, .int 0, .int 0, .int 0, .int 0, .int 0, .int 0, .int 0, .null, .null, .null, .null, .null, .null, .null, .null, .null, .null, .null, .null, .null, .null, .int 0, .null, .null, .null, .null, .null, .int 0, .null, .int 0, .int 0, .int 0, .null, .null, .null, .null, .null, .int 0, .int 0, .null, .long 0, .long 0, .int 0, .null, .null, .int 0, .int 0, .null, .null, .null, .null, .null, .int 0, .null, .null, .null, .null, .null, .null, .null, .null, .null, .null, .null, .null, .null, .int 0, .long 0, .long 0, .null, .null, .int 0, .null, .null, .null, .null, .int 0, .int 0, .null, .null, .int 0, .null, .null] := by rw [efs1, xf0]; rfl
  obtain ⟨t1, et1⟩ : ∃ z : va_W, z = (q_1, .inl (y 2, 700, .inl (fun _ => 0))) :: t0 := ⟨_, rfl⟩
  rw [← et1] at hP hD
  refine lv_aload_n hx hb dX12_init_13 rfl (lv_at hl 0 rfl) ?_
  refine lv_iconst (v := (-1)) hx hb dX12_init_14 (by decide) ?_
  refine va_put (D := D) (ci := 11) (v := .int (-1)) (ty := .int) (C := RX12) (T := TX12) (N := 85) hx hb hts inX12 tyX12 tyX12_ok nmX12 hown hK hP hD hS 0 rfl rfl 8 (by decide) fl13 (fun _ h9 => h9) rfl (by decide +kernel) rfl rfl (by rw [hlen1]; decide) dX12_init_15 (fun H locs hP hD hS => ?_)
  have hP : va_P D vwCl ((h0, .inr (11, (fs1.set 8 (.int (-1))))) :: t1) H := hP
  have hD : va_D A ((h0, .inr (11, (fs1.set 8 (.int (-1))))) :: t1) := hD
  obtain ⟨fs2, efs2⟩ : ∃ z : List Value, z = (fs1.set 8 (.int (-1))) := ⟨_, rfl⟩
  rw [← efs2] at hP hD
  have hlen2 : fs2.length = 85 := by rw [efs2, List.length_set]; exact hlen1
  have xf2 : fs2 = [.ref q_1, .int 0, .int 0, .int 0, .int 0, .int 0, .int 0, .int 0, .int (-1), .null, .null, .null, .null, .null, .null, .null, .null, .null, .null, .null, .null, .null, .null, .int 0, .null, .null, .null, .null, .null, .int 0, .null, .int 0, .int 0, .int 0, .null, .null, .null, .null, .null, .int 0, .int 0, .null, .long 0, .long 0, .int 0, .null, .null, .int 0, .int 0, .null, .null, .null, .null, .null, .int 0, .null, .null, .null, .null, .null, .null, .null, .null, .null, .null, .null, .null, .null, .int 0, .long 0, .long 0, .null, .null, .int 0, .null, .null, .null, .null, .int 0, .int 0, .null, .null, .int 0, .null, .null] := by rw [efs2, xf1]; rfl
  refine lv_aload_n hx hb dX12_init_18 rfl (lv_at hl 0 rfl) ?_
  refine lv_iconst (v := 5) hx hb dX12_init_19 (by decide) ?_
  refine x_newa (N' := 5) (a0 := (5, .inl (fun _ => 0))) (t0 := 1) (ty := .char) hx hb (hts (.arrayClass .char) (List.mem_of_getElem? (i := 63) rfl)) rfl rfl hK hP hD hS hA (x_aC 5) (by decide) (by decide) (by decide) (Nat.le_of_ble_eq_true rfl) (Nat.le_of_ble_eq_true rfl) dX12_init_20 (fun q_2 H hP hD hS => ?_)
  have hP : va_P D vwCl ((h0, .inr (11, fs2)) :: (q_2, .inl (y 1, 5, .inl (fun _ => 0))) :: t1) H := va_P.swap (a := [(h0, .inr (11, fs2))]) (b := t1) (c := [(q_2, .inl (y 1, 5, .inl (fun _ => 0)))]) hP
  have hD : va_D A ((h0, .inr (11, fs2)) :: (q_2, .inl (y 1, 5, .inl (fun _ => 0))) :: t1) := va_D.swap (a := [(h0, .inr (11, fs2))]) (b := t1) (c := [(q_2, .inl (y 1, 5, .inl (fun _ => 0)))]) hD
  refine W.widen (k := 2) (n := 705) (Nat.le_of_ble_eq_true rfl) (Nat.le_of_ble_eq_true rfl) ?_
  refine lv_dup hx hb dX12_init_22 rfl ?_
  refine lv_iconst (v := 0) hx hb dX12_init_23 (by decide) ?_
  refine lv_bipush (v := 105) hx hb dX12_init_24 (by decide) ?_
  refine va_cast hx hb hK hP hD hS 1 1 rfl rfl (x_in (by decide) (by decide)) dX12_init_26 (fun H locs hP hD hS => ?_)
  have hP : va_P D vwCl ((h0, .inr (11, fs2)) :: (q_2, .inl (y 1, 5, .inl (upd (fun _ => 0) (Int32.toNatClampNeg 0) (vp_nar .char 105)))) :: t1) H := hP
  have hD : va_D A ((h0, .inr (11, fs2)) :: (q_2, .inl (y 1, 5, .inl (upd (fun _ => 0) (Int32.toNatClampNeg 0) (vp_nar .char 105)))) :: t1) := hD
  obtain ⟨f_3, ef_3⟩ : ∃ z : Nat → Int32, z = (upd (fun _ => 0) (Int32.toNatClampNeg 0) (vp_nar .char 105)) := ⟨_, rfl⟩
  rw [← ef_3] at hP hD
  refine lv_dup hx hb dX12_init_27 rfl ?_
  refine lv_iconst (v := 1) hx hb dX12_init_28 (by decide) ?_
  refine lv_bipush (v := 110) hx hb dX12_init_29 (by decide) ?_
  refine va_cast hx hb hK hP hD hS 1 1 rfl rfl (x_in (by decide) (by decide)) dX12_init_31 (fun H locs hP hD hS => ?_)
  have hP : va_P D vwCl ((h0, .inr (11, fs2)) :: (q_2, .inl (y 1, 5, .inl (upd f_3 (Int32.toNatClampNeg 1) (vp_nar .char 110)))) :: t1) H := hP
  have hD : va_D A ((h0, .inr (11, fs2)) :: (q_2, .inl (y 1, 5, .inl (upd f_3 (Int32.toNatClampNeg 1) (vp_nar .char 110)))) :: t1) := hD
  obtain ⟨f_4, ef_4⟩ : ∃ z : Nat → Int32, z = (upd f_3 (Int32.toNatClampNeg 1) (vp_nar .char 110)) := ⟨_, rfl⟩
  rw [← ef_4] at hP hD
  refine lv_dup hx hb dX12_init_32 rfl ?_
  refine lv_iconst (v := 2) hx hb dX12_init_33 (by decide) ?_
  refine lv_bipush (v := 112) hx hb dX12_init_34 (by decide) ?_
  refine va_cast hx hb hK hP hD hS 1 1 rfl rfl (x_in (by decide) (by decide)) dX12_init_36 (fun H locs hP hD hS => ?_)
  have hP : va_P D vwCl ((h0, .inr (11, fs2)) :: (q_2, .inl (y 1, 5, .inl (upd f_4 (Int32.toNatClampNeg 2) (vp_nar .char 112)))) :: t1) H := hP
  have hD : va_D A ((h0, .inr (11, fs2)) :: (q_2, .inl (y 1, 5, .inl (upd f_4 (Int32.toNatClampNeg 2) (vp_nar .char 112)))) :: t1) := hD
  obtain ⟨f_5, ef_5⟩ : ∃ z : Nat → Int32, z = (upd f_4 (Int32.toNatClampNeg 2) (vp_nar .char 112)) := ⟨_, rfl⟩
  rw [← ef_5] at hP hD
  refine lv_dup hx hb dX12_init_37 rfl ?_
  refine lv_iconst (v := 3) hx hb dX12_init_38 (by decide) ?_
  refine lv_bipush (v := 117) hx hb dX12_init_39 (by decide) ?_
  refine va_cast hx hb hK hP hD hS 1 1 rfl rfl (x_in (by decide) (by decide)) dX12_init_41 (fun H locs hP hD hS => ?_)
  have hP : va_P D vwCl ((h0, .inr (11, fs2)) :: (q_2, .inl (y 1, 5, .inl (upd f_5 (Int32.toNatClampNeg 3) (vp_nar .char 117)))) :: t1) H := hP
  have hD : va_D A ((h0, .inr (11, fs2)) :: (q_2, .inl (y 1, 5, .inl (upd f_5 (Int32.toNatClampNeg 3) (vp_nar .char 117)))) :: t1) := hD
  obtain ⟨f_6, ef_6⟩ : ∃ z : Nat → Int32, z = (upd f_5 (Int32.toNatClampNeg 3) (vp_nar .char 117)) := ⟨_, rfl⟩
  rw [← ef_6] at hP hD
  refine lv_dup hx hb dX12_init_42 rfl ?_
  refine lv_iconst (v := 4) hx hb dX12_init_43 (by decide) ?_
  refine lv_bipush (v := 116) hx hb dX12_init_44 (by decide) ?_
  refine va_cast hx hb hK hP hD hS 1 1 rfl rfl (x_in (by decide) (by decide)) dX12_init_46 (fun H locs hP hD hS => ?_)
  have hP : va_P D vwCl ((h0, .inr (11, fs2)) :: (q_2, .inl (y 1, 5, .inl (upd f_6 (Int32.toNatClampNeg 4) (vp_nar .char 116)))) :: t1) H := hP
  have hD : va_D A ((h0, .inr (11, fs2)) :: (q_2, .inl (y 1, 5, .inl (upd f_6 (Int32.toNatClampNeg 4) (vp_nar .char 116)))) :: t1) := hD
  obtain ⟨f_7, ef_7⟩ : ∃ z : Nat → Int32, z = (upd f_6 (Int32.toNatClampNeg 4) (vp_nar .char 116)) := ⟨_, rfl⟩
  rw [← ef_7] at hP hD
  refine va_putF (D := D) (ci := 11) (v := .ref q_2) (ty := (.array .char)) (C := RX12) (T := TX12) (N := 85) hx hb hts inX12 tyX12 tyX12_ok nmX12 hown hK hP hD hS 0 rfl rfl 9 (by decide) fl17 (fun _ h9 => h9) rfl hmn rfl (by decide +kernel) rfl rfl (by rw [hlen2]; decide) dX12_init_47 (fun H locs hP hD hS => ?_)
  have hP : va_P D vwCl ((h0, .inr (11, (fs2.set 9 (.ref q_2)))) :: (q_2, .inl (y 1, 5, .inl f_7)) :: t1) H := hP
  have hD : va_D A ((h0, .inr (11, (fs2.set 9 (.ref q_2)))) :: (q_2, .inl (y 1, 5, .inl f_7)) :: t1) := hD
  obtain ⟨fs3, efs3⟩ : ∃ z : List Value, z = (fs2.set 9 (.ref q_2)) := ⟨_, rfl⟩
  rw [← efs3] at hP hD
  have hlen3 : fs3.length = 85 := by rw [efs3, List.length_set]; exact hlen2
  have xf3 : fs3 = [.ref q_1, .int 0, .int 0, .int 0, .int 0, .int 0, .int 0, .int 0, .int (-1), .ref q_2, .null, .null, .null, .null, .null, .null, .null, .null, .null, .null, .null, .null, .null, .int 0, .null, .null, .null, .null, .null, .int 0, .null, .int 0, .int 0, .int 0, .null, .null, .null, .null, .null, .int 0, .int 0, .null, .long 0, .long 0, .int 0, .null, .null, .int 0, .int 0, .null, .null, .null, .null, .null, .int 0, .null, .null, .null, .null, .null, .null, .null, .null, .null, .null, .null, .null, .null, .int 0, .long 0, .long 0, .null, .null, .int 0, .null, .null, .null, .null, .int 0, .int 0, .null, .null, .int 0, .null, .null] := by rw [efs3, xf2]; rfl
  obtain ⟨t2, et2⟩ : ∃ z : va_W, z = (q_2, .inl (y 1, 5, .inl f_7)) :: t1 := ⟨_, rfl⟩
  rw [← et2] at hP hD
  refine lv_aload_n hx hb dX12_init_50 rfl (lv_at hl 0 rfl) ?_
  refine lv_iconst (v := 3) hx hb dX12_init_51 (by decide) ?_
  refine x_newa (N' := 3) (a0 := (3, .inl (fun _ => 0))) (t0 := 1) (ty := .char) hx hb (hts (.arrayClass .char) (List.mem_of_getElem? (i := 63) rfl)) rfl rfl hK hP hD hS hA (x_aC 3) (by decide) (by decide) (by decide) (Nat.le_of_ble_eq_true rfl) (Nat.le_of_ble_eq_true rfl) dX12_init_52 (fun q_8 H hP hD hS => ?_)
  have hP : va_P D vwCl ((h0, .inr (11, fs3)) :: (q_8, .inl (y 1, 3, .inl (fun _ => 0))) :: t2) H := va_P.swap (a := [(h0, .inr (11, fs3))]) (b := t2) (c := [(q_8, .inl (y 1, 3, .inl (fun _ => 0)))]) hP
  have hD : va_D A ((h0, .inr (11, fs3)) :: (q_8, .inl (y 1, 3, .inl (fun _ => 0))) :: t2) := va_D.swap (a := [(h0, .inr (11, fs3))]) (b := t2) (c := [(q_8, .inl (y 1, 3, .inl (fun _ => 0)))]) hD
  refine W.widen (k := 3) (n := 708) (Nat.le_of_ble_eq_true rfl) (Nat.le_of_ble_eq_true rfl) ?_
  refine lv_dup hx hb dX12_init_54 rfl ?_
  refine lv_iconst (v := 0) hx hb dX12_init_55 (by decide) ?_
  refine lv_bipush (v := 114) hx hb dX12_init_56 (by decide) ?_
  refine va_cast hx hb hK hP hD hS 1 1 rfl rfl (x_in (by decide) (by decide)) dX12_init_58 (fun H locs hP hD hS => ?_)
  have hP : va_P D vwCl ((h0, .inr (11, fs3)) :: (q_8, .inl (y 1, 3, .inl (upd (fun _ => 0) (Int32.toNatClampNeg 0) (vp_nar .char 114)))) :: t2) H := hP
  have hD : va_D A ((h0, .inr (11, fs3)) :: (q_8, .inl (y 1, 3, .inl (upd (fun _ => 0) (Int32.toNatClampNeg 0) (vp_nar .char 114)))) :: t2) := hD
  obtain ⟨f_9, ef_9⟩ : ∃ z : Nat → Int32, z = (upd (fun _ => 0) (Int32.toNatClampNeg 0) (vp_nar .char 114)) := ⟨_, rfl⟩
  rw [← ef_9] at hP hD
  refine lv_dup hx hb dX12_init_59 rfl ?_
  refine lv_iconst (v := 1) hx hb dX12_init_60 (by decide) ?_
  refine lv_bipush (v := 111) hx hb dX12_init_61 (by decide) ?_
  refine va_cast hx hb hK hP hD hS 1 1 rfl rfl (x_in (by decide) (by decide)) dX12_init_63 (fun H locs hP hD hS => ?_)
  have hP : va_P D vwCl ((h0, .inr (11, fs3)) :: (q_8, .inl (y 1, 3, .inl (upd f_9 (Int32.toNatClampNeg 1) (vp_nar .char 111)))) :: t2) H := hP
  have hD : va_D A ((h0, .inr (11, fs3)) :: (q_8, .inl (y 1, 3, .inl (upd f_9 (Int32.toNatClampNeg 1) (vp_nar .char 111)))) :: t2) := hD
  obtain ⟨f_10, ef_10⟩ : ∃ z : Nat → Int32, z = (upd f_9 (Int32.toNatClampNeg 1) (vp_nar .char 111)) := ⟨_, rfl⟩
  rw [← ef_10] at hP hD
  refine lv_dup hx hb dX12_init_64 rfl ?_
  refine lv_iconst (v := 2) hx hb dX12_init_65 (by decide) ?_
  refine lv_bipush (v := 119) hx hb dX12_init_66 (by decide) ?_
  refine va_cast hx hb hK hP hD hS 1 1 rfl rfl (x_in (by decide) (by decide)) dX12_init_68 (fun H locs hP hD hS => ?_)
  have hP : va_P D vwCl ((h0, .inr (11, fs3)) :: (q_8, .inl (y 1, 3, .inl (upd f_10 (Int32.toNatClampNeg 2) (vp_nar .char 119)))) :: t2) H := hP
  have hD : va_D A ((h0, .inr (11, fs3)) :: (q_8, .inl (y 1, 3, .inl (upd f_10 (Int32.toNatClampNeg 2) (vp_nar .char 119)))) :: t2) := hD
  obtain ⟨f_11, ef_11⟩ : ∃ z : Nat → Int32, z = (upd f_10 (Int32.toNatClampNeg 2) (vp_nar .char 119)) := ⟨_, rfl⟩
  rw [← ef_11] at hP hD
  refine va_putF (D := D) (ci := 11) (v := .ref q_8) (ty := (.array .char)) (C := RX12) (T := TX12) (N := 85) hx hb hts inX12 tyX12 tyX12_ok nmX12 hown hK hP hD hS 0 rfl rfl 10 (by decide) fl21 (fun _ h9 => h9) rfl hmn rfl (by decide +kernel) rfl rfl (by rw [hlen3]; decide) dX12_init_69 (fun H locs hP hD hS => ?_)
  have hP : va_P D vwCl ((h0, .inr (11, (fs3.set 10 (.ref q_8)))) :: (q_8, .inl (y 1, 3, .inl f_11)) :: t2) H := hP
  have hD : va_D A ((h0, .inr (11, (fs3.set 10 (.ref q_8)))) :: (q_8, .inl (y 1, 3, .inl f_11)) :: t2) := hD
  obtain ⟨fs4, efs4⟩ : ∃ z : List Value, z = (fs3.set 10 (.ref q_8)) := ⟨_, rfl⟩
  rw [← efs4] at hP hD
  have hlen4 : fs4.length = 85 := by rw [efs4, List.length_set]; exact hlen3
  have xf4 : fs4 = [.ref q_1, .int 0, .int 0, .int 0, .int 0, .int 0, .int 0, .int 0, .int (-1), .ref q_2, .ref q_8, .null, .null, .null, .null, .null, .null, .null, .null, .null, .null, .null, .null, .int 0, .null, .null, .null, .null, .null, .int 0, .null, .int 0, .int 0, .int 0, .null, .null, .null, .null, .null, .int 0, .int 0, .null, .long 0, .long 0, .int 0, .null, .null, .int 0, .int 0, .null, .null, .null, .null, .null, .int 0, .null, .null, .null, .null, .null, .null, .null, .null, .null, .null, .null, .null, .null, .int 0, .long 0, .long 0, .null, .null, .int 0, .null, .null, .null, .null, .int 0, .int 0, .null, .null, .int 0, .null, .null] := by rw [efs4, xf3]; rfl
  obtain ⟨t3, et3⟩ : ∃ z : va_W, z = (q_8, .inl (y 1, 3, .inl f_11)) :: t2 := ⟨_, rfl⟩
  rw [← et3] at hP hD
  refine lv_aload_n hx hb dX12_init_72 rfl (lv_at hl 0 rfl) ?_
  refine lv_iconst (v := 3) hx hb dX12_init_73 (by decide) ?_
  refine x_newa (N' := 3) (a0 := (3, .inl (fun _ => 0))) (t0 := 1) (ty := .char) hx hb (hts (.arrayClass .char) (List.mem_of_getElem? (i := 63) rfl)) rfl rfl hK hP hD hS hA (x_aC 3) (by decide) (by decide) (by decide) (Nat.le_of_ble_eq_true rfl) (Nat.le_of_ble_eq_true rfl) dX12_init_74 (fun q_12 H hP hD hS => ?_)
  have hP : va_P D vwCl ((h0, .inr (11, fs4)) :: (q_12, .inl (y 1, 3, .inl (fun _ => 0))) :: t3) H := va_P.swap (a := [(h0, .inr (11, fs4))]) (b := t3) (c := [(q_12, .inl (y 1, 3, .inl (fun _ => 0)))]) hP
  have hD : va_D A ((h0, .inr (11, fs4)) :: (q_12, .inl (y 1, 3, .inl (fun _ => 0))) :: t3) := va_D.swap (a := [(h0, .inr (11, fs4))]) (b := t3) (c := [(q_12, .inl (y 1, 3, .inl (fun _ => 0)))]) hD
  refine W.widen (k := 4) (n := 711) (Nat.le_of_ble_eq_true rfl) (Nat.le_of_ble_eq_true rfl) ?_
  refine lv_dup hx hb dX12_init_76 rfl ?_
  refine lv_iconst (v := 0) hx hb dX12_init_77 (by decide) ?_
  refine lv_bipush (v := 118) hx hb dX12_init_78 (by decide) ?_
  refine va_cast hx hb hK hP hD hS 1 1 rfl rfl (x_in (by decide) (by decide)) dX12_init_80 (fun H locs hP hD hS => ?_)
  have hP : va_P D vwCl ((h0, .inr (11, fs4)) :: (q_12, .inl (y 1, 3, .inl (upd (fun _ => 0) (Int32.toNatClampNeg 0) (vp_nar .char 118)))) :: t3) H := hP
  have hD : va_D A ((h0, .inr (11, fs4)) :: (q_12, .inl (y 1, 3, .inl (upd (fun _ => 0) (Int32.toNatClampNeg 0) (vp_nar .char 118)))) :: t3) := hD
  obtain ⟨f_13, ef_13⟩ : ∃ z : Nat → Int32, z = (upd (fun _ => 0) (Int32.toNatClampNeg 0) (vp_nar .char 118)) := ⟨_, rfl⟩
  rw [← ef_13] at hP hD
  refine lv_dup hx hb dX12_init_81 rfl ?_
  refine lv_iconst (v := 1) hx hb dX12_init_82 (by decide) ?_
  refine lv_bipush (v := 97) hx hb dX12_init_83 (by decide) ?_
  refine va_cast hx hb hK hP hD hS 1 1 rfl rfl (x_in (by decide) (by decide)) dX12_init_85 (fun H locs hP hD hS => ?_)
  have hP : va_P D vwCl ((h0, .inr (11, fs4)) :: (q_12, .inl (y 1, 3, .inl (upd f_13 (Int32.toNatClampNeg 1) (vp_nar .char 97)))) :: t3) H := hP
  have hD : va_D A ((h0, .inr (11, fs4)) :: (q_12, .inl (y 1, 3, .inl (upd f_13 (Int32.toNatClampNeg 1) (vp_nar .char 97)))) :: t3) := hD
  obtain ⟨f_14, ef_14⟩ : ∃ z : Nat → Int32, z = (upd f_13 (Int32.toNatClampNeg 1) (vp_nar .char 97)) := ⟨_, rfl⟩
  rw [← ef_14] at hP hD
  refine lv_dup hx hb dX12_init_86 rfl ?_
  refine lv_iconst (v := 2) hx hb dX12_init_87 (by decide) ?_
  refine lv_bipush (v := 114) hx hb dX12_init_88 (by decide) ?_
  refine va_cast hx hb hK hP hD hS 1 1 rfl rfl (x_in (by decide) (by decide)) dX12_init_90 (fun H locs hP hD hS => ?_)
  have hP : va_P D vwCl ((h0, .inr (11, fs4)) :: (q_12, .inl (y 1, 3, .inl (upd f_14 (Int32.toNatClampNeg 2) (vp_nar .char 114)))) :: t3) H := hP
  have hD : va_D A ((h0, .inr (11, fs4)) :: (q_12, .inl (y 1, 3, .inl (upd f_14 (Int32.toNatClampNeg 2) (vp_nar .char 114)))) :: t3) := hD
  obtain ⟨f_15, ef_15⟩ : ∃ z : Nat → Int32, z = (upd f_14 (Int32.toNatClampNeg 2) (vp_nar .char 114)) := ⟨_, rfl⟩
  rw [← ef_15] at hP hD
  refine va_putF (D := D) (ci := 11) (v := .ref q_12) (ty := (.array .char)) (C := RX12) (T := TX12) (N := 85) hx hb hts inX12 tyX12 tyX12_ok nmX12 hown hK hP hD hS 0 rfl rfl 11 (by decide) fl24 (fun _ h9 => h9) rfl hmn rfl (by decide +kernel) rfl rfl (by rw [hlen4]; decide) dX12_init_91 (fun H locs hP hD hS => ?_)
  have hP : va_P D vwCl ((h0, .inr (11, (fs4.set 11 (.ref q_12)))) :: (q_12, .inl (y 1, 3, .inl f_15)) :: t3) H := hP
  have hD : va_D A ((h0, .inr (11, (fs4.set 11 (.ref q_12)))) :: (q_12, .inl (y 1, 3, .inl f_15)) :: t3) := hD
  obtain ⟨fs5, efs5⟩ : ∃ z : List Value, z = (fs4.set 11 (.ref q_12)) := ⟨_, rfl⟩
  rw [← efs5] at hP hD
  have hlen5 : fs5.length = 85 := by rw [efs5, List.length_set]; exact hlen4
  have xf5 : fs5 = [.ref q_1, .int 0, .int 0, .int 0, .int 0, .int 0, .int 0, .int 0, .int (-1), .ref q_2, .ref q_8, .ref q_12, .null, .null, .null, .null, .null, .null, .null, .null, .null, .null, .null, .int 0, .null, .null, .null, .null, .null, .int 0, .null, .int 0, .int 0, .int 0, .null, .null, .null, .null, .null, .int 0, .int 0, .null, .long 0, .long 0, .int 0, .null, .null, .int 0, .int 0, .null, .null, .null, .null, .null, .int 0, .null, .null, .null, .null, .null, .null, .null, .null, .null, .null, .null, .null, .null, .int 0, .long 0, .long 0, .null, .null, .int 0, .null, .null, .null, .null, .int 0, .int 0, .null, .null, .int 0, .null, .null] := by rw [efs5, xf4]; rfl
  obtain ⟨t4, et4⟩ : ∃ z : va_W, z = (q_12, .inl (y 1, 3, .inl f_15)) :: t3 := ⟨_, rfl⟩
  rw [← et4] at hP hD
  refine lv_aload_n hx hb dX12_init_94 rfl (lv_at hl 0 rfl) ?_
  refine lv_iconst (v := 3) hx hb dX12_init_95 (by decide) ?_
  refine x_newa (N' := 3) (a0 := (3, .inl (fun _ => 0))) (t0 := 1) (ty := .char) hx hb (hts (.arrayClass .char) (List.mem_of_getElem? (i := 63) rfl)) rfl rfl hK hP hD hS hA (x_aC 3) (by decide) (by decide) (by decide) (Nat.le_of_ble_eq_true rfl) (Nat.le_of_ble_eq_true rfl) dX12_init_96 (fun q_16 H hP hD hS => ?_)
  have hP : va_P D vwCl ((h0, .inr (11, fs5)) :: (q_16, .inl (y 1, 3, .inl (fun _ => 0))) :: t4) H := va_P.swap (a := [(h0, .inr (11, fs5))]) (b := t4) (c := [(q_16, .inl (y 1, 3, .inl (fun _ => 0)))]) hP
  have hD : va_D A ((h0, .inr (11, fs5)) :: (q_16, .inl (y 1, 3, .inl (fun _ => 0))) :: t4) := va_D.swap (a := [(h0, .inr (11, fs5))]) (b := t4) (c := [(q_16, .inl (y 1, 3, .inl (fun _ => 0)))]) hD
  refine W.widen (k := 5) (n := 714) (Nat.le_of_ble_eq_true rfl) (Nat.le_of_ble_eq_true rfl) ?_
  refine lv_dup hx hb dX12_init_98 rfl ?_
  refine lv_iconst (v := 0) hx hb dX12_init_99 (by decide) ?_
  refine lv_bipush (v := 115) hx hb dX12_init_100 (by decide) ?_
  refine va_cast hx hb hK hP hD hS 1 1 rfl rfl (x_in (by decide) (by decide)) dX12_init_102 (fun H locs hP hD hS => ?_)
  have hP : va_P D vwCl ((h0, .inr (11, fs5)) :: (q_16, .inl (y 1, 3, .inl (upd (fun _ => 0) (Int32.toNatClampNeg 0) (vp_nar .char 115)))) :: t4) H := hP
  have hD : va_D A ((h0, .inr (11, fs5)) :: (q_16, .inl (y 1, 3, .inl (upd (fun _ => 0) (Int32.toNatClampNeg 0) (vp_nar .char 115)))) :: t4) := hD
  obtain ⟨f_17, ef_17⟩ : ∃ z : Nat → Int32, z = (upd (fun _ => 0) (Int32.toNatClampNeg 0) (vp_nar .char 115)) := ⟨_, rfl⟩
  rw [← ef_17] at hP hD
  refine lv_dup hx hb dX12_init_103 rfl ?_
  refine lv_iconst (v := 1) hx hb dX12_init_104 (by decide) ?_
  refine lv_bipush (v := 101) hx hb dX12_init_105 (by decide) ?_
  refine va_cast hx hb hK hP hD hS 1 1 rfl rfl (x_in (by decide) (by decide)) dX12_init_107 (fun H locs hP hD hS => ?_)
  have hP : va_P D vwCl ((h0, .inr (11, fs5)) :: (q_16, .inl (y 1, 3, .inl (upd f_17 (Int32.toNatClampNeg 1) (vp_nar .char 101)))) :: t4) H := hP
  have hD : va_D A ((h0, .inr (11, fs5)) :: (q_16, .inl (y 1, 3, .inl (upd f_17 (Int32.toNatClampNeg 1) (vp_nar .char 101)))) :: t4) := hD
  obtain ⟨f_18, ef_18⟩ : ∃ z : Nat → Int32, z = (upd f_17 (Int32.toNatClampNeg 1) (vp_nar .char 101)) := ⟨_, rfl⟩
  rw [← ef_18] at hP hD
  refine lv_dup hx hb dX12_init_108 rfl ?_
  refine lv_iconst (v := 2) hx hb dX12_init_109 (by decide) ?_
  refine lv_bipush (v := 116) hx hb dX12_init_110 (by decide) ?_
  refine va_cast hx hb hK hP hD hS 1 1 rfl rfl (x_in (by decide) (by decide)) dX12_init_112 (fun H locs hP hD hS => ?_)
  have hP : va_P D vwCl ((h0, .inr (11, fs5)) :: (q_16, .inl (y 1, 3, .inl (upd f_18 (Int32.toNatClampNeg 2) (vp_nar .char 116)))) :: t4) H := hP
  have hD : va_D A ((h0, .inr (11, fs5)) :: (q_16, .inl (y 1, 3, .inl (upd f_18 (Int32.toNatClampNeg 2) (vp_nar .char 116)))) :: t4) := hD
  obtain ⟨f_19, ef_19⟩ : ∃ z : Nat → Int32, z = (upd f_18 (Int32.toNatClampNeg 2) (vp_nar .char 116)) := ⟨_, rfl⟩
  rw [← ef_19] at hP hD
  refine va_putF (D := D) (ci := 11) (v := .ref q_16) (ty := (.array .char)) (C := RX12) (T := TX12) (N := 85) hx hb hts inX12 tyX12 tyX12_ok nmX12 hown hK hP hD hS 0 rfl rfl 12 (by decide) fl27 (fun _ h9 => h9) rfl hmn rfl (by decide +kernel) rfl rfl (by rw [hlen5]; decide) dX12_init_113 (fun H locs hP hD hS => ?_)
  have hP : va_P D vwCl ((h0, .inr (11, (fs5.set 12 (.ref q_16)))) :: (q_16, .inl (y 1, 3, .inl f_19)) :: t4) H := hP
  have hD : va_D A ((h0, .inr (11, (fs5.set 12 (.ref q_16)))) :: (q_16, .inl (y 1, 3, .inl f_19)) :: t4) := hD
  obtain ⟨fs6, efs6⟩ : ∃ z : List Value, z = (fs5.set 12 (.ref q_16)) := ⟨_, rfl⟩
  rw [← efs6] at hP hD
  have hlen6 : fs6.length = 85 := by rw [efs6, List.length_set]; exact hlen5
  have xf6 : fs6 = [.ref q_1, .int 0, .int 0, .int 0, .int 0, .int 0, .int 0, .int 0, .int (-1), .ref q_2, .ref q_8, .ref q_12, .ref q_16, .null, .null, .null, .null, .null, .null, .null, .null, .null, .null, .int 0, .null, .null, .null, .null, .null, .int 0, .null, .int 0, .int 0, .int 0, .null, .null, .null, .null, .null, .int 0, .int 0, .null, .long 0, .long 0, .int 0, .null, .null, .int 0, .int 0, .null, .null, .null, .null, .null, .int 0, .null, .null, .null, .null, .null, .null, .null, .null, .null, .null, .null, .null, .null, .int 0, .long 0, .long 0, .null, .null, .int 0, .null, .null, .null, .null, .int 0, .int 0, .null, .null, .int 0, .null, .null] := by rw [efs6, xf5]; rfl
  obtain ⟨t5, et5⟩ : ∃ z : va_W, z = (q_16, .inl (y 1, 3, .inl f_19)) :: t4 := ⟨_, rfl⟩
  rw [← et5] at hP hD
  refine lv_aload_n hx hb dX12_init_116 rfl (lv_at hl 0 rfl) ?_
  refine lv_iconst (v := 4) hx hb dX12_init_117 (by decide) ?_
  refine x_newa (N' := 4) (a0 := (4, .inl (fun _ => 0))) (t0 := 1) (ty := .char) hx hb (hts (.arrayClass .char) (List.mem_of_getElem? (i := 63) rfl)) rfl rfl hK hP hD hS hA (x_aC 4) (by decide) (by decide) (by decide) (Nat.le_of_ble_eq_true rfl) (Nat.le_of_ble_eq_true rfl) dX12_init_118 (fun q_20 H hP hD hS => ?_)
  have hP : va_P D vwCl ((h0, .inr (11, fs6)) :: (q_20, .inl (y 1, 4, .inl (fun _ => 0))) :: t5) H := va_P.swap (a := [(h0, .inr (11, fs6))]) (b := t5) (c := [(q_20, .inl (y 1, 4, .inl (fun _ => 0)))]) hP
  have hD : va_D A ((h0, .inr (11, fs6)) :: (q_20, .inl (y 1, 4, .inl (fun _ => 0))) :: t5) := va_D.swap (a := [(h0, .inr (11, fs6))]) (b := t5) (c := [(q_20, .inl (y 1, 4, .inl (fun _ => 0)))]) hD
  refine W.widen (k := 6) (n := 718) (Nat.le_of_ble_eq_true rfl) (Nat.le_of_ble_eq_true rfl) ?_
  refine lv_dup hx hb dX12_init_120 rfl ?_
  refine lv_iconst (v := 0) hx hb dX12_init_121 (by decide) ?_
  refine lv_bipush (v := 103) hx hb dX12_init_122 (by decide) ?_
  refine va_cast hx hb hK hP hD hS 1 1 rfl rfl (x_in (by decide) (by decide)) dX12_init_124 (fun H locs hP hD hS => ?_)
  have hP : va_P D vwCl ((h0, .inr (11, fs6)) :: (q_20, .inl (y 1, 4, .inl (upd (fun _ => 0) (Int32.toNatClampNeg 0) (vp_nar .char 103)))) :: t5) H := hP
  have hD : va_D A ((h0, .inr (11, fs6)) :: (q_20, .inl (y 1, 4, .inl (upd (fun _ => 0) (Int32.toNatClampNeg 0) (vp_nar .char 103)))) :: t5) := hD
  obtain ⟨f_21, ef_21⟩ : ∃ z : Nat → Int32, z = (upd (fun _ => 0) (Int32.toNatClampNeg 0) (vp_nar .char 103)) := ⟨_, rfl⟩
  rw [← ef_21] at hP hD
  refine lv_dup hx hb dX12_init_125 rfl ?_
  refine lv_iconst (v := 1) hx hb dX12_init_126 (by decide) ?_
  refine lv_bipush (v := 105) hx hb dX12_init_127 (by decide) ?_
  refine va_cast hx hb hK hP hD hS 1 1 rfl rfl (x_in (by decide) (by decide)) dX12_init_129 (fun H locs hP hD hS => ?_)
  have hP : va_P D vwCl ((h0, .inr (11, fs6)) :: (q_20, .inl (y 1, 4, .inl (upd f_21 (Int32.toNatClampNeg 1) (vp_nar .char 105)))) :: t5) H := hP
  have hD : va_D A ((h0, .inr (11, fs6)) :: (q_20, .inl (y 1, 4, .inl (upd f_21 (Int32.toNatClampNeg 1) (vp_nar .char 105)))) :: t5) := hD
  obtain ⟨f_22, ef_22⟩ : ∃ z : Nat → Int32, z = (upd f_21 (Int32.toNatClampNeg 1) (vp_nar .char 105)) := ⟨_, rfl⟩
  rw [← ef_22] at hP hD
  refine lv_dup hx hb dX12_init_130 rfl ?_
  refine lv_iconst (v := 2) hx hb dX12_init_131 (by decide) ?_
  refine lv_bipush (v := 118) hx hb dX12_init_132 (by decide) ?_
  refine va_cast hx hb hK hP hD hS 1 1 rfl rfl (x_in (by decide) (by decide)) dX12_init_134 (fun H locs hP hD hS => ?_)
  have hP : va_P D vwCl ((h0, .inr (11, fs6)) :: (q_20, .inl (y 1, 4, .inl (upd f_22 (Int32.toNatClampNeg 2) (vp_nar .char 118)))) :: t5) H := hP
  have hD : va_D A ((h0, .inr (11, fs6)) :: (q_20, .inl (y 1, 4, .inl (upd f_22 (Int32.toNatClampNeg 2) (vp_nar .char 118)))) :: t5) := hD
  obtain ⟨f_23, ef_23⟩ : ∃ z : Nat → Int32, z = (upd f_22 (Int32.toNatClampNeg 2) (vp_nar .char 118)) := ⟨_, rfl⟩
  rw [← ef_23] at hP hD
  refine lv_dup hx hb dX12_init_135 rfl ?_
  refine lv_iconst (v := 3) hx hb dX12_init_136 (by decide) ?_
  refine lv_bipush (v := 101) hx hb dX12_init_137 (by decide) ?_
  refine va_cast hx hb hK hP hD hS 1 1 rfl rfl (x_in (by decide) (by decide)) dX12_init_139 (fun H locs hP hD hS => ?_)
  have hP : va_P D vwCl ((h0, .inr (11, fs6)) :: (q_20, .inl (y 1, 4, .inl (upd f_23 (Int32.toNatClampNeg 3) (vp_nar .char 101)))) :: t5) H := hP
  have hD : va_D A ((h0, .inr (11, fs6)) :: (q_20, .inl (y 1, 4, .inl (upd f_23 (Int32.toNatClampNeg 3) (vp_nar .char 101)))) :: t5) := hD
  obtain ⟨f_24, ef_24⟩ : ∃ z : Nat → Int32, z = (upd f_23 (Int32.toNatClampNeg 3) (vp_nar .char 101)) := ⟨_, rfl⟩
  rw [← ef_24] at hP hD
  refine va_putF (D := D) (ci := 11) (v := .ref q_20) (ty := (.array .char)) (C := RX12) (T := TX12) (N := 85) hx hb hts inX12 tyX12 tyX12_ok nmX12 hown hK hP hD hS 0 rfl rfl 13 (by decide) fl30 (fun _ h9 => h9) rfl hmn rfl (by decide +kernel) rfl rfl (by rw [hlen6]; decide) dX12_init_140 (fun H locs hP hD hS => ?_)
  have hP : va_P D vwCl ((h0, .inr (11, (fs6.set 13 (.ref q_20)))) :: (q_20, .inl (y 1, 4, .inl f_24)) :: t5) H := hP
  have hD : va_D A ((h0, .inr (11, (fs6.set 13 (.ref q_20)))) :: (q_20, .inl (y 1, 4, .inl f_24)) :: t5) := hD
  obtain ⟨fs7, efs7⟩ : ∃ z : List Value, z = (fs6.set 13 (.ref q_20)) := ⟨_, rfl⟩
  rw [← efs7] at hP hD
  have hlen7 : fs7.length = 85 := by rw [efs7, List.length_set]; exact hlen6
  have xf7 : fs7 = [.ref q_1, .int 0, .int 0, .int 0, .int 0, .int 0, .int 0, .int 0, .int (-1), .ref q_2, .ref q_8, .ref q_12, .ref q_16, .ref q_20, .null, .null, .null, .null, .null, .null, .null, .null, .null, .int 0, .null, .null, .null, .null, .null, .int 0, .null, .int 0, .int 0, .int 0, .null, .null, .null, .null, .null, .int 0, .int 0, .null, .long 0, .long 0, .int 0, .null, .null, .int 0, .int 0, .null, .null, .null, .null, .null, .int 0, .null, .null, .null, .null, .null, .null, .null, .null, .null, .null, .null, .null, .null, .int 0, .long 0, .long 0, .null, .null, .int 0, .null, .null, .null, .null, .int 0, .int 0, .null, .null, .int 0, .null, .null] := by rw [efs7, xf6]; rfl
  obtain ⟨t6, et6⟩ : ∃ z : va_W, z = (q_20, .inl (y 1, 4, .inl f_24)) :: t5 := ⟨_, rfl⟩
  rw [← et6] at hP hD
  refine lv_aload_n hx hb dX12_init_143 rfl (lv_at hl 0 rfl) ?_
  refine lv_iconst (v := 2) hx hb dX12_init_144 (by decide) ?_
  refine x_newa (N' := 2) (a0 := (2, .inl (fun _ => 0))) (t0 := 1) (ty := .char) hx hb (hts (.arrayClass .char) (List.mem_of_getElem? (i := 63) rfl)) rfl rfl hK hP hD hS hA (x_aC 2) (by decide) (by decide) (by decide) (Nat.le_of_ble_eq_true rfl) (Nat.le_of_ble_eq_true rfl) dX12_init_145 (fun q_25 H hP hD hS => ?_)
  have hP : va_P D vwCl ((h0, .inr (11, fs7)) :: (q_25, .inl (y 1, 2, .inl (fun _ => 0))) :: t6) H := va_P.swap (a := [(h0, .inr (11, fs7))]) (b := t6) (c := [(q_25, .inl (y 1, 2, .inl (fun _ => 0)))]) hP
  have hD : va_D A ((h0, .inr (11, fs7)) :: (q_25, .inl (y 1, 2, .inl (fun _ => 0))) :: t6) := va_D.swap (a := [(h0, .inr (11, fs7))]) (b := t6) (c := [(q_25, .inl (y 1, 2, .inl (fun _ => 0)))]) hD
  refine W.widen (k := 7) (n := 720) (Nat.le_of_ble_eq_true rfl) (Nat.le_of_ble_eq_true rfl) ?_
  refine lv_dup hx hb dX12_init_147 rfl ?_
  refine lv_iconst (v := 0) hx hb dX12_init_148 (by decide) ?_
  refine lv_bipush (v := 105) hx hb dX12_init_149 (by decide) ?_
  refine va_cast hx hb hK hP hD hS 1 1 rfl rfl (x_in (by decide) (by decide)) dX12_init_151 (fun H locs hP hD hS => ?_)
  have hP : va_P D vwCl ((h0, .inr (11, fs7)) :: (q_25, .inl (y 1, 2, .inl (upd (fun _ => 0) (Int32.toNatClampNeg 0) (vp_nar .char 105)))) :: t6) H := hP
  have hD : va_D A ((h0, .inr (11, fs7)) :: (q_25, .inl (y 1, 2, .inl (upd (fun _ => 0) (Int32.toNatClampNeg 0) (vp_nar .char 105)))) :: t6) := hD
  obtain ⟨f_26, ef_26⟩ : ∃ z : Nat → Int32, z = (upd (fun _ => 0) (Int32.toNatClampNeg 0) (vp_nar .char 105)) := ⟨_, rfl⟩
  rw [← ef_26] at hP hD
  refine lv_dup hx hb dX12_init_152 rfl ?_
  refine lv_iconst (v := 1) hx hb dX12_init_153 (by decide) ?_
  refine lv_bipush (v := 102) hx hb dX12_init_154 (by decide) ?_
  refine va_cast hx hb hK hP hD hS 1 1 rfl rfl (x_in (by decide) (by decide)) dX12_init_156 (fun H locs hP hD hS => ?_)
  have hP : va_P D vwCl ((h0, .inr (11, fs7)) :: (q_25, .inl (y 1, 2, .inl (upd f_26 (Int32.toNatClampNeg 1) (vp_nar .char 102)))) :: t6) H := hP
  have hD : va_D A ((h0, .inr (11, fs7)) :: (q_25, .inl (y 1, 2, .inl (upd f_26 (Int32.toNatClampNeg 1) (vp_nar .char 102)))) :: t6) := hD
  obtain ⟨f_27, ef_27⟩ : ∃ z : Nat → Int32, z = (upd f_26 (Int32.toNatClampNeg 1) (vp_nar .char 102)) := ⟨_, rfl⟩
  rw [← ef_27] at hP hD
  refine va_putF (D := D) (ci := 11) (v := .ref q_25) (ty := (.array .char)) (C := RX12) (T := TX12) (N := 85) hx hb hts inX12 tyX12 tyX12_ok nmX12 hown hK hP hD hS 0 rfl rfl 14 (by decide) fl33 (fun _ h9 => h9) rfl hmn rfl (by decide +kernel) rfl rfl (by rw [hlen7]; decide) dX12_init_157 (fun H locs hP hD hS => ?_)
  have hP : va_P D vwCl ((h0, .inr (11, (fs7.set 14 (.ref q_25)))) :: (q_25, .inl (y 1, 2, .inl f_27)) :: t6) H := hP
  have hD : va_D A ((h0, .inr (11, (fs7.set 14 (.ref q_25)))) :: (q_25, .inl (y 1, 2, .inl f_27)) :: t6) := hD
  obtain ⟨fs8, efs8⟩ : ∃ z : List Value, z = (fs7.set 14 (.ref q_25)) := ⟨_, rfl⟩
  rw [← efs8] at hP hD
  have hlen8 : fs8.length = 85 := by rw [efs8, List.length_set]; exact hlen7
  have xf8 : fs8 = [.ref q_1, .int 0, .int 0, .int 0, .int 0, .int 0, .int 0, .int 0, .int (-1), .ref q_2, .ref q_8, .ref q_12, .ref q_16, .ref q_20, .ref q_25, .null, .null, .null, .null, .null, .null, .null, .null, .int 0, .null, .null, .null, .null, .null, .int 0, .null, .int 0, .int 0, .int 0, .null, .null, .null, .null, .null, .int 0, .int 0, .null, .long 0, .long 0, .int 0, .null, .null, .int 0, .int 0, .null, .null, .null, .null, .null, .int 0, .null, .null, .null, .null, .null, .null, .null, .null, .null, .null, .null, .null, .null, .int 0, .long 0, .long 0, .null, .null, .int 0, .null, .null, .null, .null, .int 0, .int 0, .null, .null, .int 0, .null, .null] := by rw [efs8, xf7]; rfl
  obtain ⟨t7, et7⟩ : ∃ z : va_W, z = (q_25, .inl (y 1, 2, .inl f_27)) :: t6 := ⟨_, rfl⟩
  rw [← et7] at hP hD
  refine lv_aload_n hx hb dX12_init_160 rfl (lv_at hl 0 rfl) ?_
  refine lv_iconst (v := 4) hx hb dX12_init_161 (by decide) ?_
  refine x_newa (N' := 4) (a0 := (4, .inl (fun _ => 0))) (t0 := 1) (ty := .char) hx hb (hts (.arrayClass .char) (List.mem_of_getElem? (i := 63) rfl)) rfl rfl hK hP hD hS hA (x_aC 4) (by decide) (by decide) (by decide) (Nat.le_of_ble_eq_true rfl) (Nat.le_of_ble_eq_true rfl) dX12_init_162 (fun q_28 H hP hD hS => ?_)
  have hP : va_P D vwCl ((h0, .inr (11, fs8)) :: (q_28, .inl (y 1, 4, .inl (fun _ => 0))) :: t7) H := va_P.swap (a := [(h0, .inr (11, fs8))]) (b := t7) (c := [(q_28, .inl (y 1, 4, .inl (fun _ => 0)))]) hP
  have hD : va_D A ((h0, .inr (11, fs8)) :: (q_28, .inl (y 1, 4, .inl (fun _ => 0))) :: t7) := va_D.swap (a := [(h0, .inr (11, fs8))]) (b := t7) (c := [(q_28, .inl (y 1, 4, .inl (fun _ => 0)))]) hD
  refine W.widen (k := 8) (n := 724) (Nat.le_of_ble_eq_true rfl) (Nat.le_of_ble_eq_true rfl) ?_
  refine lv_dup hx hb dX12_init_164 rfl ?_
  refine lv_iconst (v := 0) hx hb dX12_init_165 (by decide) ?_
  refine lv_bipush (v := 101) hx hb dX12_init_166 (by decide) ?_
  refine va_cast hx hb hK hP hD hS 1 1 rfl rfl (x_in (by decide) (by decide)) dX12_init_168 (fun H locs hP hD hS => ?_)
  have hP : va_P D vwCl ((h0, .inr (11, fs8)) :: (q_28, .inl (y 1, 4, .inl (upd (fun _ => 0) (Int32.toNatClampNeg 0) (vp_nar .char 101)))) :: t7) H := hP
  have hD : va_D A ((h0, .inr (11, fs8)) :: (q_28, .inl (y 1, 4, .inl (upd (fun _ => 0) (Int32.toNatClampNeg 0) (vp_nar .char 101)))) :: t7) := hD
  obtain ⟨f_29, ef_29⟩ : ∃ z : Nat → Int32, z = (upd (fun _ => 0) (Int32.toNatClampNeg 0) (vp_nar .char 101)) := ⟨_, rfl⟩
  rw [← ef_29] at hP hD
  refine lv_dup hx hb dX12_init_169 rfl ?_
  refine lv_iconst (v := 1) hx hb dX12_init_170 (by decide) ?_
  refine lv_bipush (v := 108) hx hb dX12_init_171 (by decide) ?_
  refine va_cast hx hb hK hP hD hS 1 1 rfl rfl (x_in (by decide) (by decide)) dX12_init_173 (fun H locs hP hD hS => ?_)
  have hP : va_P D vwCl ((h0, .inr (11, fs8)) :: (q_28, .inl (y 1, 4, .inl (upd f_29 (Int32.toNatClampNeg 1) (vp_nar .char 108)))) :: t7) H := hP
  have hD : va_D A ((h0, .inr (11, fs8)) :: (q_28, .inl (y 1, 4, .inl (upd f_29 (Int32.toNatClampNeg 1) (vp_nar .char 108)))) :: t7) := hD
  obtain ⟨f_30, ef_30⟩ : ∃ z : Nat → Int32, z = (upd f_29 (Int32.toNatClampNeg 1) (vp_nar .char 108)) := ⟨_, rfl⟩
  rw [← ef_30] at hP hD
  refine lv_dup hx hb dX12_init_174 rfl ?_
  refine lv_iconst (v := 2) hx hb dX12_init_175 (by decide) ?_
  refine lv_bipush (v := 115) hx hb dX12_init_176 (by decide) ?_
  refine va_cast hx hb hK hP hD hS 1 1 rfl rfl (x_in (by decide) (by decide)) dX12_init_178 (fun H locs hP hD hS => ?_)
  have hP : va_P D vwCl ((h0, .inr (11, fs8)) :: (q_28, .inl (y 1, 4, .inl (upd f_30 (Int32.toNatClampNeg 2) (vp_nar .char 115)))) :: t7) H := hP
  have hD : va_D A ((h0, .inr (11, fs8)) :: (q_28, .inl (y 1, 4, .inl (upd f_30 (Int32.toNatClampNeg 2) (vp_nar .char 115)))) :: t7) := hD
  obtain ⟨f_31, ef_31⟩ : ∃ z : Nat → Int32, z = (upd f_30 (Int32.toNatClampNeg 2) (vp_nar .char 115)) := ⟨_, rfl⟩
  rw [← ef_31] at hP hD
  refine lv_dup hx hb dX12_init_179 rfl ?_
  refine lv_iconst (v := 3) hx hb dX12_init_180 (by decide) ?_
  refine lv_bipush (v := 101) hx hb dX12_init_181 (by decide) ?_
  refine va_cast hx hb hK hP hD hS 1 1 rfl rfl (x_in (by decide) (by decide)) dX12_init_183 (fun H locs hP hD hS => ?_)
  have hP : va_P D vwCl ((h0, .inr (11, fs8)) :: (q_28, .inl (y 1, 4, .inl (upd f_31 (Int32.toNatClampNeg 3) (vp_nar .char 101)))) :: t7) H := hP
  have hD : va_D A ((h0, .inr (11, fs8)) :: (q_28, .inl (y 1, 4, .inl (upd f_31 (Int32.toNatClampNeg 3) (vp_nar .char 101)))) :: t7) := hD
  obtain ⟨f_32, ef_32⟩ : ∃ z : Nat → Int32, z = (upd f_31 (Int32.toNatClampNeg 3) (vp_nar .char 101)) := ⟨_, rfl⟩
  rw [← ef_32] at hP hD
  refine va_putF (D := D) (ci := 11) (v := .ref q_28) (ty := (.array .char)) (C := RX12) (T := TX12) (N := 85) hx hb hts inX12 tyX12 tyX12_ok nmX12 hown hK hP hD hS 0 rfl rfl 15 (by decide) fl36 (fun _ h9 => h9) rfl hmn rfl (by decide +kernel) rfl rfl (by rw [hlen8]; decide) dX12_init_184 (fun H locs hP hD hS => ?_)
  have hP : va_P D vwCl ((h0, .inr (11, (fs8.set 15 (.ref q_28)))) :: (q_28, .inl (y 1, 4, .inl f_32)) :: t7) H := hP
  have hD : va_D A ((h0, .inr (11, (fs8.set 15 (.ref q_28)))) :: (q_28, .inl (y 1, 4, .inl f_32)) :: t7) := hD
  obtain ⟨fs9, efs9⟩ : ∃ z : List Value, z = (fs8.set 15 (.ref q_28)) := ⟨_, rfl⟩
  rw [← efs9] at hP hD
  have hlen9 : fs9.length = 85 := by rw [efs9, List.length_set]; exact hlen8
  have xf9 : fs9 = [.ref q_1, .int 0, .int 0, .int 0, .int 0, .int 0, .int 0, .int 0, .int (-1), .ref q_2, .ref q_8, .ref q_12, .ref q_16, .ref q_20, .ref q_25, .ref q_28, .null, .null, .null, .null, .null, .null, .null, .int 0, .null, .null, .null, .null, .null, .int 0, .null, .int 0, .int 0, .int 0, .null, .null, .null, .null, .null, .int 0, .int 0, .null, .long 0, .long 0, .int 0, .null, .null, .int 0, .int 0, .null, .null, .null, .null, .null, .int 0, .null, .null, .null, .null, .null, .null, .null, .null, .null, .null, .null, .null, .null, .int 0, .long 0, .long 0, .null, .null, .int 0, .null, .null, .null, .null, .int 0, .int 0, .null, .null, .int 0, .null, .null] := by rw [efs9, xf8]; rfl
  obtain ⟨t8, et8⟩ : ∃ z : va_W, z = (q_28, .inl (y 1, 4, .inl f_32)) :: t7 := ⟨_, rfl⟩
  rw [← et8] at hP hD
  refine lv_aload_n hx hb dX12_init_187 rfl (lv_at hl 0 rfl) ?_
  refine lv_iconst (v := 5) hx hb dX12_init_188 (by decide) ?_
  refine x_newa (N' := 5) (a0 := (5, .inl (fun _ => 0))) (t0 := 1) (ty := .char) hx hb (hts (.arrayClass .char) (List.mem_of_getElem? (i := 63) rfl)) rfl rfl hK hP hD hS hA (x_aC 5) (by decide) (by decide) (by decide) (Nat.le_of_ble_eq_true rfl) (Nat.le_of_ble_eq_true rfl) dX12_init_189 (fun q_33 H hP hD hS => ?_)
  have hP : va_P D vwCl ((h0, .inr (11, fs9)) :: (q_33, .inl (y 1, 5, .inl (fun _ => 0))) :: t8) H := va_P.swap (a := [(h0, .inr (11, fs9))]) (b := t8) (c := [(q_33, .inl (y 1, 5, .inl (fun _ => 0)))]) hP
  have hD : va_D A ((h0, .inr (11, fs9)) :: (q_33, .inl (y 1, 5, .inl (fun _ => 0))) :: t8) := va_D.swap (a := [(h0, .inr (11, fs9))]) (b := t8) (c := [(q_33, .inl (y 1, 5, .inl (fun _ => 0)))]) hD
  refine W.widen (k := 9) (n := 729) (Nat.le_of_ble_eq_true rfl) (Nat.le_of_ble_eq_true rfl) ?_
  refine lv_dup hx hb dX12_init_191 rfl ?_
  refine lv_iconst (v := 0) hx hb dX12_init_192 (by decide) ?_
  refine lv_bipush (v := 119) hx hb dX12_init_193 (by decide) ?_
  refine va_cast hx hb hK hP hD hS 1 1 rfl rfl (x_in (by decide) (by decide)) dX12_init_195 (fun H locs hP hD hS => ?_)
  have hP : va_P D vwCl ((h0, .inr (11, fs9)) :: (q_33, .inl (y 1, 5, .inl (upd (fun _ => 0) (Int32.toNatClampNeg 0) (vp_nar .char 119)))) :: t8) H := hP
  have hD : va_D A ((h0, .inr (11, fs9)) :: (q_33, .inl (y 1, 5, .inl (upd (fun _ => 0) (Int32.toNatClampNeg 0) (vp_nar .char 119)))) :: t8) := hD
  obtain ⟨f_34, ef_34⟩ : ∃ z : Nat → Int32, z = (upd (fun _ => 0) (Int32.toNatClampNeg 0) (vp_nar .char 119)) := ⟨_, rfl⟩
  rw [← ef_34] at hP hD
  refine lv_dup hx hb dX12_init_196 rfl ?_
  refine lv_iconst (v := 1) hx hb dX12_init_197 (by decide) ?_
  refine lv_bipush (v := 104) hx hb dX12_init_198 (by decide) ?_
  refine va_cast hx hb hK hP hD hS 1 1 rfl rfl (x_in (by decide) (by decide)) dX12_init_200 (fun H locs hP hD hS => ?_)
  have hP : va_P D vwCl ((h0, .inr (11, fs9)) :: (q_33, .inl (y 1, 5, .inl (upd f_34 (Int32.toNatClampNeg 1) (vp_nar .char 104)))) :: t8) H := hP
  have hD : va_D A ((h0, .inr (11, fs9)) :: (q_33, .inl (y 1, 5, .inl (upd f_34 (Int32.toNatClampNeg 1) (vp_nar .char 104)))) :: t8) := hD
  obtain ⟨f_35, ef_35⟩ : ∃ z : Nat → Int32, z = (upd f_34 (Int32.toNatClampNeg 1) (vp_nar .char 104)) := ⟨_, rfl⟩
  rw [← ef_35] at hP hD
  refine lv_dup hx hb dX12_init_201 rfl ?_
  refine lv_iconst (v := 2) hx hb dX12_init_202 (by decide) ?_
  refine lv_bipush (v := 105) hx hb dX12_init_203 (by decide) ?_
  refine va_cast hx hb hK hP hD hS 1 1 rfl rfl (x_in (by decide) (by decide)) dX12_init_205 (fun H locs hP hD hS => ?_)
  have hP : va_P D vwCl ((h0, .inr (11, fs9)) :: (q_33, .inl (y 1, 5, .inl (upd f_35 (Int32.toNatClampNeg 2) (vp_nar .char 105)))) :: t8) H := hP
  have hD : va_D A ((h0, .inr (11, fs9)) :: (q_33, .inl (y 1, 5, .inl (upd f_35 (Int32.toNatClampNeg 2) (vp_nar .char 105)))) :: t8) := hD
  obtain ⟨f_36, ef_36⟩ : ∃ z : Nat → Int32, z = (upd f_35 (Int32.toNatClampNeg 2) (vp_nar .char 105)) := ⟨_, rfl⟩
  rw [← ef_36] at hP hD
  refine lv_dup hx hb dX12_init_206 rfl ?_
  refine lv_iconst (v := 3) hx hb dX12_init_207 (by decide) ?_
  refine lv_bipush (v := 108) hx hb dX12_init_208 (by decide) ?_
  refine va_cast hx hb hK hP hD hS 1 1 rfl rfl (x_in (by decide) (by decide)) dX12_init_210 (fun H locs hP hD hS => ?_)
  have hP : va_P D vwCl ((h0, .inr (11, fs9)) :: (q_33, .inl (y 1, 5, .inl (upd f_36 (Int32.toNatClampNeg 3) (vp_nar .char 108)))) :: t8) H := hP
  have hD : va_D A ((h0, .inr (11, fs9)) :: (q_33, .inl (y 1, 5, .inl (upd f_36 (Int32.toNatClampNeg 3) (vp_nar .char 108)))) :: t8) := hD
  obtain ⟨f_37, ef_37⟩ : ∃ z : Nat → Int32, z = (upd f_36 (Int32.toNatClampNeg 3) (vp_nar .char 108)) := ⟨_, rfl⟩
  rw [← ef_37] at hP hD
  refine lv_dup hx hb dX12_init_211 rfl ?_
  refine lv_iconst (v := 4) hx hb dX12_init_212 (by decide) ?_
  refine lv_bipush (v := 101) hx hb dX12_init_213 (by decide) ?_
  refine va_cast hx hb hK hP hD hS 1 1 rfl rfl (x_in (by decide) (by decide)) dX12_init_215 (fun H locs hP hD hS => ?_)
  have hP : va_P D vwCl ((h0, .inr (11, fs9)) :: (q_33, .inl (y 1, 5, .inl (upd f_37 (Int32.toNatClampNeg 4) (vp_nar .char 101)))) :: t8) H := hP
  have hD : va_D A ((h0, .inr (11, fs9)) :: (q_33, .inl (y 1, 5, .inl (upd f_37 (Int32.toNatClampNeg 4) (vp_nar .char 101)))) :: t8) := hD
  obtain ⟨f_38, ef_38⟩ : ∃ z : Nat → Int32, z = (upd f_37 (Int32.toNatClampNeg 4) (vp_nar .char 101)) := ⟨_, rfl⟩
  rw [← ef_38] at hP hD
  refine va_putF (D := D) (ci := 11) (v := .ref q_33) (ty := (.array .char)) (C := RX12) (T := TX12) (N := 85) hx hb hts inX12 tyX12 tyX12_ok nmX12 hown hK hP hD hS 0 rfl rfl 16 (by decide) fl39 (fun _ h9 => h9) rfl hmn rfl (by decide +kernel) rfl rfl (by rw [hlen9]; decide) dX12_init_216 (fun H locs hP hD hS => ?_)
  have hP : va_P D vwCl ((h0, .inr (11, (fs9.set 16 (.ref q_33)))) :: (q_33, .inl (y 1, 5, .inl f_38)) :: t8) H := hP
  have hD : va_D A ((h0, .inr (11, (fs9.set 16 (.ref q_33)))) :: (q_33, .inl (y 1, 5, .inl f_38)) :: t8) := hD
  obtain ⟨fs10, efs10⟩ : ∃ z : List Value, z = (fs9.set 16 (.ref q_33)) := ⟨_, rfl⟩
  rw [← efs10] at hP hD
  have hlen10 : fs10.length = 85 := by rw [efs10, List.length_set]; exact hlen9
  have xf10 : fs10 = [.ref q_1, .int 0, .int 0, .int 0, .int 0, .int 0, .int 0, .int 0, .int (-1), .ref q_2, .ref q_8, .ref q_12, .ref q_16, .ref q_20, .ref q_25, .ref q_28, .ref q_33, .null, .null, .null, .null, .null, .null, .int 0, .null, .null, .null, .null, .null, .int 0, .null, .int 0, .int 0, .int 0, .null, .null, .null, .null, .null, .int 0, .int 0, .null, .long 0, .long 0, .int 0, .null, .null, .int 0, .int 0, .null, .null, .null, .null, .null, .int 0, .null, .null, .null, .null, .null, .null, .null, .null, .null, .null, .null, .null, .null, .int 0, .long 0, .long 0, .null, .null, .int 0, .null, .null, .null, .null, .int 0, .int 0, .null, .null, .int 0, .null, .null] := by rw [efs10, xf9]; rfl
  obtain ⟨t9, et9⟩ : ∃ z : va_W, z = (q_33, .inl (y 1, 5, .inl f_38)) :: t8 := ⟨_, rfl⟩
  rw [← et9] at hP hD
  refine lv_aload_n hx hb dX12_init_219 rfl (lv_at hl 0 rfl) ?_
  refine lv_iconst (v := 3) hx hb dX12_init_220 (by decide) ?_
  refine x_newa (N' := 3) (a0 := (3, .inl (fun _ => 0))) (t0 := 1) (ty := .char) hx hb (hts (.arrayClass .char) (List.mem_of_getElem? (i := 63) rfl)) rfl rfl hK hP hD hS hA (x_aC 3) (by decide) (by decide) (by decide) (Nat.le_of_ble_eq_true rfl) (Nat.le_of_ble_eq_true rfl) dX12_init_221 (fun q_39 H hP hD hS => ?_)
  have hP : va_P D vwCl ((h0, .inr (11, fs10)) :: (q_39, .inl (y 1, 3, .inl (fun _ => 0))) :: t9) H := va_P.swap (a := [(h0, .inr (11, fs10))]) (b := t9) (c := [(q_39, .inl (y 1, 3, .inl (fun _ => 0)))]) hP
  have hD : va_D A ((h0, .inr (11, fs10)) :: (q_39, .inl (y 1, 3, .inl (fun _ => 0))) :: t9) := va_D.swap (a := [(h0, .inr (11, fs10))]) (b := t9) (c := [(q_39, .inl (y 1, 3, .inl (fun _ => 0)))]) hD
  refine W.widen (k := 10) (n := 732) (Nat.le_of_ble_eq_true rfl) (Nat.le_of_ble_eq_true rfl) ?_
  refine lv_dup hx hb dX12_init_223 rfl ?_
  refine lv_iconst (v := 0) hx hb dX12_init_224 (by decide) ?_
  refine lv_bipush (v := 97) hx hb dX12_init_225 (by decide) ?_
  refine va_cast hx hb hK hP hD hS 1 1 rfl rfl (x_in (by decide) (by decide)) dX12_init_227 (fun H locs hP hD hS => ?_)
  have hP : va_P D vwCl ((h0, .inr (11, fs10)) :: (q_39, .inl (y 1, 3, .inl (upd (fun _ => 0) (Int32.toNatClampNeg 0) (vp_nar .char 97)))) :: t9) H := hP
  have hD : va_D A ((h0, .inr (11, fs10)) :: (q_39, .inl (y 1, 3, .inl (upd (fun _ => 0) (Int32.toNatClampNeg 0) (vp_nar .char 97)))) :: t9) := hD
  obtain ⟨f_40, ef_40⟩ : ∃ z : Nat → Int32, z = (upd (fun _ => 0) (Int32.toNatClampNeg 0) (vp_nar .char 97)) := ⟨_, rfl⟩
  rw [← ef_40] at hP hD
  refine lv_dup hx hb dX12_init_228 rfl ?_
  refine lv_iconst (v := 1) hx hb dX12_init_229 (by decide) ?_
  refine lv_bipush (v := 110) hx hb dX12_init_230 (by decide) ?_
  refine va_cast hx hb hK hP hD hS 1 1 rfl rfl (x_in (by decide) (by decide)) dX12_init_232 (fun H locs hP hD hS => ?_)
  have hP : va_P D vwCl ((h0, .inr (11, fs10)) :: (q_39, .inl (y 1, 3, .inl (upd f_40 (Int32.toNatClampNeg 1) (vp_nar .char 110)))) :: t9) H := hP
  have hD : va_D A ((h0, .inr (11, fs10)) :: (q_39, .inl (y 1, 3, .inl (upd f_40 (Int32.toNatClampNeg 1) (vp_nar .char 110)))) :: t9) := hD
  obtain ⟨f_41, ef_41⟩ : ∃ z : Nat → Int32, z = (upd f_40 (Int32.toNatClampNeg 1) (vp_nar .char 110)) := ⟨_, rfl⟩
  rw [← ef_41] at hP hD
  refine lv_dup hx hb dX12_init_233 rfl ?_
  refine lv_iconst (v := 2) hx hb dX12_init_234 (by decide) ?_
  refine lv_bipush (v := 100) hx hb dX12_init_235 (by decide) ?_
  refine va_cast hx hb hK hP hD hS 1 1 rfl rfl (x_in (by decide) (by decide)) dX12_init_237 (fun H locs hP hD hS => ?_)
  have hP : va_P D vwCl ((h0, .inr (11, fs10)) :: (q_39, .inl (y 1, 3, .inl (upd f_41 (Int32.toNatClampNeg 2) (vp_nar .char 100)))) :: t9) H := hP
  have hD : va_D A ((h0, .inr (11, fs10)) :: (q_39, .inl (y 1, 3, .inl (upd f_41 (Int32.toNatClampNeg 2) (vp_nar .char 100)))) :: t9) := hD
  obtain ⟨f_42, ef_42⟩ : ∃ z : Nat → Int32, z = (upd f_41 (Int32.toNatClampNeg 2) (vp_nar .char 100)) := ⟨_, rfl⟩
  rw [← ef_42] at hP hD
  refine va_putF (D := D) (ci := 11) (v := .ref q_39) (ty := (.array .char)) (C := RX12) (T := TX12) (N := 85) hx hb hts inX12 tyX12 tyX12_ok nmX12 hown hK hP hD hS 0 rfl rfl 17 (by decide) fl42 (fun _ h9 => h9) rfl hmn rfl (by decide +kernel) rfl rfl (by rw [hlen10]; decide) dX12_init_238 (fun H locs hP hD hS => ?_)
  have hP : va_P D vwCl ((h0, .inr (11, (fs10.set 17 (.ref q_39)))) :: (q_39, .inl (y 1, 3, .inl f_42)) :: t9) H := hP
  have hD : va_D A ((h0, .inr (11, (fs10.set 17 (.ref q_39)))) :: (q_39, .inl (y 1, 3, .inl f_42)) :: t9) := hD
  obtain ⟨fs11, efs11⟩ : ∃ z : List Value, z = (fs10.set 17 (.ref q_39)) := ⟨_, rfl⟩
  rw [← efs11] at hP hD
  have hlen11 : fs11.length = 85 := by rw [efs11, List.length_set]; exact hlen10
  have xf11 : fs11 = [.ref q_1, .int 0, .int 0, .int 0, .int 0, .int 0, .int 0, .int 0, .int (-1), .ref q_2, .ref q_8, .ref q_12, .ref q_16, .ref q_20, .ref q_25, .ref q_28, .ref q_33, .ref q_39, .null, .null, .null, .null, .null, .int 0, .null, .null, .null, .null, .null, .int 0, .null, .int 0, .int 0, .int 0, .null, .null, .null, .null, .null, .int 0, .int 0, .null, .long 0, .long 0, .int 0, .null, .null, .int 0, .int 0, .null, .null, .null, .null, .null, .int 0, .null, .null, .null, .null, .null, .null, .null, .null, .null, .null, .null, .null, .null, .int 0, .long 0, .long 0, .null, .null, .int 0, .null, .null, .null, .null, .int 0, .int 0, .null, .null, .int 0, .null, .null] := by rw [efs11, xf10]; rfl
  obtain ⟨t10, et10⟩ : ∃ z : va_W, z = (q_39, .inl (y 1, 3, .inl f_42)) :: t9 := ⟨_, rfl⟩
  rw [← et10] at hP hD
  refine lv_aload_n hx hb dX12_init_241 rfl (lv_at hl 0 rfl) ?_
  refine lv_iconst (v := 2) hx hb dX12_init_242 (by decide) ?_
  refine x_newa (N' := 2) (a0 := (2, .inl (fun _ => 0))) (t0 := 1) (ty := .char) hx hb (hts (.arrayClass .char) (List.mem_of_getElem? (i := 63) rfl)) rfl rfl hK hP hD hS hA (x_aC 2) (by decide) (by decide) (by decide) (Nat.le_of_ble_eq_true rfl) (Nat.le_of_ble_eq_true rfl) dX12_init_243 (fun q_43 H hP hD hS => ?_)
  have hP : va_P D vwCl ((h0, .inr (11, fs11)) :: (q_43, .inl (y 1, 2, .inl (fun _ => 0))) :: t10) H := va_P.swap (a := [(h0, .inr (11, fs11))]) (b := t10) (c := [(q_43, .inl (y 1, 2, .inl (fun _ => 0)))]) hP
  have hD : va_D A ((h0, .inr (11, fs11)) :: (q_43, .inl (y 1, 2, .inl (fun _ => 0))) :: t10) := va_D.swap (a := [(h0, .inr (11, fs11))]) (b := t10) (c := [(q_43, .inl (y 1, 2, .inl (fun _ => 0)))]) hD
  refine W.widen (k := 11) (n := 734) (Nat.le_of_ble_eq_true rfl) (Nat.le_of_ble_eq_true rfl) ?_
  refine lv_dup hx hb dX12_init_245 rfl ?_
  refine lv_iconst (v := 0) hx hb dX12_init_246 (by decide) ?_
  refine lv_bipush (v := 111) hx hb dX12_init_247 (by decide) ?_
  refine va_cast hx hb hK hP hD hS 1 1 rfl rfl (x_in (by decide) (by decide)) dX12_init_249 (fun H locs hP hD hS => ?_)
  have hP : va_P D vwCl ((h0, .inr (11, fs11)) :: (q_43, .inl (y 1, 2, .inl (upd (fun _ => 0) (Int32.toNatClampNeg 0) (vp_nar .char 111)))) :: t10) H := hP
  have hD : va_D A ((h0, .inr (11, fs11)) :: (q_43, .inl (y 1, 2, .inl (upd (fun _ => 0) (Int32.toNatClampNeg 0) (vp_nar .char 111)))) :: t10) := hD
  obtain ⟨f_44, ef_44⟩ : ∃ z : Nat → Int32, z = (upd (fun _ => 0) (Int32.toNatClampNeg 0) (vp_nar .char 111)) := ⟨_, rfl⟩
  rw [← ef_44] at hP hD
  refine lv_dup hx hb dX12_init_250 rfl ?_
  refine lv_iconst (v := 1) hx hb dX12_init_251 (by decide) ?_
  refine lv_bipush (v := 114) hx hb dX12_init_252 (by decide) ?_
  refine va_cast hx hb hK hP hD hS 1 1 rfl rfl (x_in (by decide) (by decide)) dX12_init_254 (fun H locs hP hD hS => ?_)
  have hP : va_P D vwCl ((h0, .inr (11, fs11)) :: (q_43, .inl (y 1, 2, .inl (upd f_44 (Int32.toNatClampNeg 1) (vp_nar .char 114)))) :: t10) H := hP
  have hD : va_D A ((h0, .inr (11, fs11)) :: (q_43, .inl (y 1, 2, .inl (upd f_44 (Int32.toNatClampNeg 1) (vp_nar .char 114)))) :: t10) := hD
  obtain ⟨f_45, ef_45⟩ : ∃ z : Nat → Int32, z = (upd f_44 (Int32.toNatClampNeg 1) (vp_nar .char 114)) := ⟨_, rfl⟩
  rw [← ef_45] at hP hD
  refine va_putF (D := D) (ci := 11) (v := .ref q_43) (ty := (.array .char)) (C := RX12) (T := TX12) (N := 85) hx hb hts inX12 tyX12 tyX12_ok nmX12 hown hK hP hD hS 0 rfl rfl 18 (by decide) fl45 (fun _ h9 => h9) rfl hmn rfl (by decide +kernel) rfl rfl (by rw [hlen11]; decide) dX12_init_255 (fun H locs hP hD hS => ?_)
  have hP : va_P D vwCl ((h0, .inr (11, (fs11.set 18 (.ref q_43)))) :: (q_43, .inl (y 1, 2, .inl f_45)) :: t10) H := hP
  have hD : va_D A ((h0, .inr (11, (fs11.set 18 (.ref q_43)))) :: (q_43, .inl (y 1, 2, .inl f_45)) :: t10) := hD
  obtain ⟨fs12, efs12⟩ : ∃ z : List Value, z = (fs11.set 18 (.ref q_43)) := ⟨_, rfl⟩
  rw [← efs12] at hP hD
  have hlen12 : fs12.length = 85 := by rw [efs12, List.length_set]; exact hlen11
  have xf12 : fs12 = [.ref q_1, .int 0, .int 0, .int 0, .int 0, .int 0, .int 0, .int 0, .int (-1), .ref q_2, .ref q_8, .ref q_12, .ref q_16, .ref q_20, .ref q_25, .ref q_28, .ref q_33, .ref q_39, .ref q_43, .null, .null, .null, .null, .int 0, .null, .null, .null, .null, .null, .int 0, .null, .int 0, .int 0, .int 0, .null, .null, .null, .null, .null, .int 0, .int 0, .null, .long 0, .long 0, .int 0, .null, .null, .int 0, .int 0, .null, .null, .null, .null, .null, .int 0, .null, .null, .null, .null, .null, .null, .null, .null, .null, .null, .null, .null, .null, .int 0, .long 0, .long 0, .null, .null, .int 0, .null, .null, .null, .null, .int 0, .int 0, .null, .null, .int 0, .null, .null] := by rw [efs12, xf11]; rfl
  obtain ⟨t11, et11⟩ : ∃ z : va_W, z = (q_43, .inl (y 1, 2, .inl f_45)) :: t10 := ⟨_, rfl⟩
  rw [← et11] at hP hD
  refine lv_aload_n hx hb dX12_init_258 rfl (lv_at hl 0 rfl) ?_
  refine lv_iconst (v := 3) hx hb dX12_init_259 (by decide) ?_
  refine x_newa (N' := 3) (a0 := (3, .inl (fun _ => 0))) (t0 := 1) (ty := .char) hx hb (hts (.arrayClass .char) (List.mem_of_getElem? (i := 63) rfl)) rfl rfl hK hP hD hS hA (x_aC 3) (by decide) (by decide) (by decide) (Nat.le_of_ble_eq_true rfl) (Nat.le_of_ble_eq_true rfl) dX12_init_260 (fun q_46 H hP hD hS => ?_)
  have hP : va_P D vwCl ((h0, .inr (11, fs12)) :: (q_46, .inl (y 1, 3, .inl (fun _ => 0))) :: t11) H := va_P.swap (a := [(h0, .inr (11, fs12))]) (b := t11) (c := [(q_46, .inl (y 1, 3, .inl (fun _ => 0)))]) hP
  have hD : va_D A ((h0, .inr (11, fs12)) :: (q_46, .inl (y 1, 3, .inl (fun _ => 0))) :: t11) := va_D.swap (a := [(h0, .inr (11, fs12))]) (b := t11) (c := [(q_46, .inl (y 1, 3, .inl (fun _ => 0)))]) hD
  refine W.widen (k := 12) (n := 737) (Nat.le_of_ble_eq_true rfl) (Nat.le_of_ble_eq_true rfl) ?_
  refine lv_dup hx hb dX12_init_262 rfl ?_
  refine lv_iconst (v := 0) hx hb dX12_init_263 (by decide) ?_
  refine lv_bipush (v := 110) hx hb dX12_init_264 (by decide) ?_
  refine va_cast hx hb hK hP hD hS 1 1 rfl rfl (x_in (by decide) (by decide)) dX12_init_266 (fun H locs hP hD hS => ?_)
  have hP : va_P D vwCl ((h0, .inr (11, fs12)) :: (q_46, .inl (y 1, 3, .inl (upd (fun _ => 0) (Int32.toNatClampNeg 0) (vp_nar .char 110)))) :: t11) H := hP
  have hD : va_D A ((h0, .inr (11, fs12)) :: (q_46, .inl (y 1, 3, .inl (upd (fun _ => 0) (Int32.toNatClampNeg 0) (vp_nar .char 110)))) :: t11) := hD
  obtain ⟨f_47, ef_47⟩ : ∃ z : Nat → Int32, z = (upd (fun _ => 0) (Int32.toNatClampNeg 0) (vp_nar .char 110)) := ⟨_, rfl⟩
  rw [← ef_47] at hP hD
  refine lv_dup hx hb dX12_init_267 rfl ?_
  refine lv_iconst (v := 1) hx hb dX12_init_268 (by decide) ?_
  refine lv_bipush (v := 111) hx hb dX12_init_269 (by decide) ?_
  refine va_cast hx hb hK hP hD hS 1 1 rfl rfl (x_in (by decide) (by decide)) dX12_init_271 (fun H locs hP hD hS => ?_)
  have hP : va_P D vwCl ((h0, .inr (11, fs12)) :: (q_46, .inl (y 1, 3, .inl (upd f_47 (Int32.toNatClampNeg 1) (vp_nar .char 111)))) :: t11) H := hP
  have hD : va_D A ((h0, .inr (11, fs12)) :: (q_46, .inl (y 1, 3, .inl (upd f_47 (Int32.toNatClampNeg 1) (vp_nar .char 111)))) :: t11) := hD
  obtain ⟨f_48, ef_48⟩ : ∃ z : Nat → Int32, z = (upd f_47 (Int32.toNatClampNeg 1) (vp_nar .char 111)) := ⟨_, rfl⟩
  rw [← ef_48] at hP hD
  refine lv_dup hx hb dX12_init_272 rfl ?_
  refine lv_iconst (v := 2) hx hb dX12_init_273 (by decide) ?_
  refine lv_bipush (v := 116) hx hb dX12_init_274 (by decide) ?_
  refine va_cast hx hb hK hP hD hS 1 1 rfl rfl (x_in (by decide) (by decide)) dX12_init_276 (fun H locs hP hD hS => ?_)
  have hP : va_P D vwCl ((h0, .inr (11, fs12)) :: (q_46, .inl (y 1, 3, .inl (upd f_48 (Int32.toNatClampNeg 2) (vp_nar .char 116)))) :: t11) H := hP
  have hD : va_D A ((h0, .inr (11, fs12)) :: (q_46, .inl (y 1, 3, .inl (upd f_48 (Int32.toNatClampNeg 2) (vp_nar .char 116)))) :: t11) := hD
  obtain ⟨f_49, ef_49⟩ : ∃ z : Nat → Int32, z = (upd f_48 (Int32.toNatClampNeg 2) (vp_nar .char 116)) := ⟨_, rfl⟩
  rw [← ef_49] at hP hD
  refine va_putF (D := D) (ci := 11) (v := .ref q_46) (ty := (.array .char)) (C := RX12) (T := TX12) (N := 85) hx hb hts inX12 tyX12 tyX12_ok nmX12 hown hK hP hD hS 0 rfl rfl 19 (by decide) fl48 (fun _ h9 => h9) rfl hmn rfl (by decide +kernel) rfl rfl (by rw [hlen12]; decide) dX12_init_277 (fun H locs hP hD hS => ?_)
  have hP : va_P D vwCl ((h0, .inr (11, (fs12.set 19 (.ref q_46)))) :: (q_46, .inl (y 1, 3, .inl f_49)) :: t11) H := hP
  have hD : va_D A ((h0, .inr (11, (fs12.set 19 (.ref q_46)))) :: (q_46, .inl (y 1, 3, .inl f_49)) :: t11) := hD
  obtain ⟨fs13, efs13⟩ : ∃ z : List Value, z = (fs12.set 19 (.ref q_46)) := ⟨_, rfl⟩
  rw [← efs13] at hP hD
  have hlen13 : fs13.length = 85 := by rw [efs13, List.length_set]; exact hlen12
  have xf13 : fs13 = [.ref q_1, .int 0, .int 0, .int 0, .int 0, .int 0, .int 0, .int 0, .int (-1), .ref q_2, .ref q_8, .ref q_12, .ref q_16, .ref q_20, .ref q_25, .ref q_28, .ref q_33, .ref q_39, .ref q_43, .ref q_46, .null, .null, .null, .int 0, .null, .null, .null, .null, .null, .int 0, .null, .int 0, .int 0, .int 0, .null, .null, .null, .null, .null, .int 0, .int 0, .null, .long 0, .long 0, .int 0, .null, .null, .int 0, .int 0, .null, .null, .null, .null, .null, .int 0, .null, .null, .null, .null, .null, .null, .null, .null, .null, .null, .null, .null, .null, .int 0, .long 0, .long 0, .null, .null, .int 0, .null, .null, .null, .null, .int 0, .int 0, .null, .null, .int 0, .null, .null] := by rw [efs13, xf12]; rfl
  obtain ⟨t12, et12⟩ : ∃ z : va_W, z = (q_46, .inl (y 1, 3, .inl f_49)) :: t11 := ⟨_, rfl⟩
  rw [← et12] at hP hD
  refine lv_aload_n hx hb dX12_init_280 rfl (lv_at hl 0 rfl) ?_
  refine lv_iconst (v := 3) hx hb dX12_init_281 (by decide) ?_
  refine x_newa (N' := 3) (a0 := (3, .inl (fun _ => 0))) (t0 := 1) (ty := .char) hx hb (hts (.arrayClass .char) (List.mem_of_getElem? (i := 63) rfl)) rfl rfl hK hP hD hS hA (x_aC 3) (by decide) (by decide) (by decide) (Nat.le_of_ble_eq_true rfl) (Nat.le_of_ble_eq_true rfl) dX12_init_282 (fun q_50 H hP hD hS => ?_)
  have hP : va_P D vwCl ((h0, .inr (11, fs13)) :: (q_50, .inl (y 1, 3, .inl (fun _ => 0))) :: t12) H := va_P.swap (a := [(h0, .inr (11, fs13))]) (b := t12) (c := [(q_50, .inl (y 1, 3, .inl (fun _ => 0)))]) hP
  have hD : va_D A ((h0, .inr (11, fs13)) :: (q_50, .inl (y 1, 3, .inl (fun _ => 0))) :: t12) := va_D.swap (a := [(h0, .inr (11, fs13))]) (b := t12) (c := [(q_50, .inl (y 1, 3, .inl (fun _ => 0)))]) hD
  refine W.widen (k := 13) (n := 740) (Nat.le_of_ble_eq_true rfl) (Nat.le_of_ble_eq_true rfl) ?_
  refine lv_dup hx hb dX12_init_284 rfl ?_
  refine lv_iconst (v := 0) hx hb dX12_init_285 (by decide) ?_
  refine lv_bipush (v := 97) hx hb dX12_init_286 (by decide) ?_
  refine va_cast hx hb hK hP hD hS 1 1 rfl rfl (x_in (by decide) (by decide)) dX12_init_288 (fun H locs hP hD hS => ?_)
  have hP : va_P D vwCl ((h0, .inr (11, fs13)) :: (q_50, .inl (y 1, 3, .inl (upd (fun _ => 0) (Int32.toNatClampNeg 0) (vp_nar .char 97)))) :: t12) H := hP
  have hD : va_D A ((h0, .inr (11, fs13)) :: (q_50, .inl (y 1, 3, .inl (upd (fun _ => 0) (Int32.toNatClampNeg 0) (vp_nar .char 97)))) :: t12) := hD
  obtain ⟨f_51, ef_51⟩ : ∃ z : Nat → Int32, z = (upd (fun _ => 0) (Int32.toNatClampNeg 0) (vp_nar .char 97)) := ⟨_, rfl⟩
  rw [← ef_51] at hP hD
  refine lv_dup hx hb dX12_init_289 rfl ?_
  refine lv_iconst (v := 1) hx hb dX12_init_290 (by decide) ?_
  refine lv_bipush (v := 98) hx hb dX12_init_291 (by decide) ?_
  refine va_cast hx hb hK hP hD hS 1 1 rfl rfl (x_in (by decide) (by decide)) dX12_init_293 (fun H locs hP hD hS => ?_)
  have hP : va_P D vwCl ((h0, .inr (11, fs13)) :: (q_50, .inl (y 1, 3, .inl (upd f_51 (Int32.toNatClampNeg 1) (vp_nar .char 98)))) :: t12) H := hP
  have hD : va_D A ((h0, .inr (11, fs13)) :: (q_50, .inl (y 1, 3, .inl (upd f_51 (Int32.toNatClampNeg 1) (vp_nar .char 98)))) :: t12) := hD
  obtain ⟨f_52, ef_52⟩ : ∃ z : Nat → Int32, z = (upd f_51 (Int32.toNatClampNeg 1) (vp_nar .char 98)) := ⟨_, rfl⟩
  rw [← ef_52] at hP hD
  refine lv_dup hx hb dX12_init_294 rfl ?_
  refine lv_iconst (v := 2) hx hb dX12_init_295 (by decide) ?_
  refine lv_bipush (v := 115) hx hb dX12_init_296 (by decide) ?_
  refine va_cast hx hb hK hP hD hS 1 1 rfl rfl (x_in (by decide) (by decide)) dX12_init_298 (fun H locs hP hD hS => ?_)
  have hP : va_P D vwCl ((h0, .inr (11, fs13)) :: (q_50, .inl (y 1, 3, .inl (upd f_52 (Int32.toNatClampNeg 2) (vp_nar .char 115)))) :: t12) H := hP
  have hD : va_D A ((h0, .inr (11, fs13)) :: (q_50, .inl (y 1, 3, .inl (upd f_52 (Int32.toNatClampNeg 2) (vp_nar .char 115)))) :: t12) := hD
  obtain ⟨f_53, ef_53⟩ : ∃ z : Nat → Int32, z = (upd f_52 (Int32.toNatClampNeg 2) (vp_nar .char 115)) := ⟨_, rfl⟩
  rw [← ef_53] at hP hD
  refine va_putF (D := D) (ci := 11) (v := .ref q_50) (ty := (.array .char)) (C := RX12) (T := TX12) (N := 85) hx hb hts inX12 tyX12 tyX12_ok nmX12 hown hK hP hD hS 0 rfl rfl 20 (by decide) fl51 (fun _ h9 => h9) rfl hmn rfl (by decide +kernel) rfl rfl (by rw [hlen13]; decide) dX12_init_299 (fun H locs hP hD hS => ?_)
  have hP : va_P D vwCl ((h0, .inr (11, (fs13.set 20 (.ref q_50)))) :: (q_50, .inl (y 1, 3, .inl f_53)) :: t12) H := hP
  have hD : va_D A ((h0, .inr (11, (fs13.set 20 (.ref q_50)))) :: (q_50, .inl (y 1, 3, .inl f_53)) :: t12) := hD
  obtain ⟨fs14, efs14⟩ : ∃ z : List Value, z = (fs13.set 20 (.ref q_50)) := ⟨_, rfl⟩
  rw [← efs14] at hP hD
  have hlen14 : fs14.length = 85 := by rw [efs14, List.length_set]; exact hlen13
  have xf14 : fs14 = [.ref q_1, .int 0, .int 0, .int 0, .int 0, .int 0, .int 0, .int 0, .int (-1), .ref q_2, .ref q_8, .ref q_12, .ref q_16, .ref q_20, .ref q_25, .ref q_28, .ref q_33, .ref q_39, .ref q_43, .ref q_46, .ref q_50, .null, .null, .int 0, .null, .null, .null, .null, .null, .int 0, .null, .int 0, .int 0, .int 0, .null, .null, .null, .null, .null, .int 0, .int 0, .null, .long 0, .long 0, .int 0, .null, .null, .int 0, .int 0, .null, .null, .null, .null, .null, .int 0, .null, .null, .null, .null, .null, .null, .null, .null, .null, .null, .null, .null, .null, .int 0, .long 0, .long 0, .null, .null, .int 0, .null, .null, .null, .null, .int 0, .int 0, .null, .null, .int 0, .null, .null] := by rw [efs14, xf13]; rfl
  obtain ⟨t13, et13⟩ : ∃ z : va_W, z = (q_50, .inl (y 1, 3, .inl f_53)) :: t12 := ⟨_, rfl⟩
  rw [← et13] at hP hD
  refine lv_aload_n hx hb dX12_init_302 rfl (lv_at hl 0 rfl) ?_
  refine lv_iconst (v := 3) hx hb dX12_init_303 (by decide) ?_
  refine x_newa (N' := 3) (a0 := (3, .inl (fun _ => 0))) (t0 := 1) (ty := .char) hx hb (hts (.arrayClass .char) (List.mem_of_getElem? (i := 63) rfl)) rfl rfl hK hP hD hS hA (x_aC 3) (by decide) (by decide) (by decide) (Nat.le_of_ble_eq_true rfl) (Nat.le_of_ble_eq_true rfl) dX12_init_304 (fun q_54 H hP hD hS => ?_)
  have hP : va_P D vwCl ((h0, .inr (11, fs14)) :: (q_54, .inl (y 1, 3, .inl (fun _ => 0))) :: t13) H := va_P.swap (a := [(h0, .inr (11, fs14))]) (b := t13) (c := [(q_54, .inl (y 1, 3, .inl (fun _ => 0)))]) hP
  have hD : va_D A ((h0, .inr (11, fs14)) :: (q_54, .inl (y 1, 3, .inl (fun _ => 0))) :: t13) := va_D.swap (a := [(h0, .inr (11, fs14))]) (b := t13) (c := [(q_54, .inl (y 1, 3, .inl (fun _ => 0)))]) hD
  refine W.widen (k := 14) (n := 743) (Nat.le_of_ble_eq_true rfl) (Nat.le_of_ble_eq_true rfl) ?_
  refine lv_dup hx hb dX12_init_306 rfl ?_
  refine lv_iconst (v := 0) hx hb dX12_init_307 (by decide) ?_
  refine lv_bipush (v := 109) hx hb dX12_init_308 (by decide) ?_
  refine va_cast hx hb hK hP hD hS 1 1 rfl rfl (x_in (by decide) (by decide)) dX12_init_310 (fun H locs hP hD hS => ?_)
  have hP : va_P D vwCl ((h0, .inr (11, fs14)) :: (q_54, .inl (y 1, 3, .inl (upd (fun _ => 0) (Int32.toNatClampNeg 0) (vp_nar .char 109)))) :: t13) H := hP
  have hD : va_D A ((h0, .inr (11, fs14)) :: (q_54, .inl (y 1, 3, .inl (upd (fun _ => 0) (Int32.toNatClampNeg 0) (vp_nar .char 109)))) :: t13) := hD
  obtain ⟨f_55, ef_55⟩ : ∃ z : Nat → Int32, z = (upd (fun _ => 0) (Int32.toNatClampNeg 0) (vp_nar .char 109)) := ⟨_, rfl⟩
  rw [← ef_55] at hP hD
  refine lv_dup hx hb dX12_init_311 rfl ?_
  refine lv_iconst (v := 1) hx hb dX12_init_312 (by decide) ?_
  refine lv_bipush (v := 105) hx hb dX12_init_313 (by decide) ?_
  refine va_cast hx hb hK hP hD hS 1 1 rfl rfl (x_in (by decide) (by decide)) dX12_init_315 (fun H locs hP hD hS => ?_)
  have hP : va_P D vwCl ((h0, .inr (11, fs14)) :: (q_54, .inl (y 1, 3, .inl (upd f_55 (Int32.toNatClampNeg 1) (vp_nar .char 105)))) :: t13) H := hP
  have hD : va_D A ((h0, .inr (11, fs14)) :: (q_54, .inl (y 1, 3, .inl (upd f_55 (Int32.toNatClampNeg 1) (vp_nar .char 105)))) :: t13) := hD
  obtain ⟨f_56, ef_56⟩ : ∃ z : Nat → Int32, z = (upd f_55 (Int32.toNatClampNeg 1) (vp_nar .char 105)) := ⟨_, rfl⟩
  rw [← ef_56] at hP hD
  refine lv_dup hx hb dX12_init_316 rfl ?_
  refine lv_iconst (v := 2) hx hb dX12_init_317 (by decide) ?_
  refine lv_bipush (v := 110) hx hb dX12_init_318 (by decide) ?_
  refine va_cast hx hb hK hP hD hS 1 1 rfl rfl (x_in (by decide) (by decide)) dX12_init_320 (fun H locs hP hD hS => ?_)
  have hP : va_P D vwCl ((h0, .inr (11, fs14)) :: (q_54, .inl (y 1, 3, .inl (upd f_56 (Int32.toNatClampNeg 2) (vp_nar .char 110)))) :: t13) H := hP
  have hD : va_D A ((h0, .inr (11, fs14)) :: (q_54, .inl (y 1, 3, .inl (upd f_56 (Int32.toNatClampNeg 2) (vp_nar .char 110)))) :: t13) := hD
  obtain ⟨f_57, ef_57⟩ : ∃ z : Nat → Int32, z = (upd f_56 (Int32.toNatClampNeg 2) (vp_nar .char 110)) := ⟨_, rfl⟩
  rw [← ef_57] at hP hD
  refine va_putF (D := D) (ci := 11) (v := .ref q_54) (ty := (.array .char)) (C := RX12) (T := TX12) (N := 85) hx hb hts inX12 tyX12 tyX12_ok nmX12 hown hK hP hD hS 0 rfl rfl 21 (by decide) fl54 (fun _ h9 => h9) rfl hmn rfl (by decide +kernel) rfl rfl (by rw [hlen14]; decide) dX12_init_321 (fun H locs hP hD hS => ?_)
  have hP : va_P D vwCl ((h0, .inr (11, (fs14.set 21 (.ref q_54)))) :: (q_54, .inl (y 1, 3, .inl f_57)) :: t13) H := hP
  have hD : va_D A ((h0, .inr (11, (fs14.set 21 (.ref q_54)))) :: (q_54, .inl (y 1, 3, .inl f_57)) :: t13) := hD
  obtain ⟨fs15, efs15⟩ : ∃ z : List Value, z = (fs14.set 21 (.ref q_54)) := ⟨_, rfl⟩
  rw [← efs15] at hP hD
  have hlen15 : fs15.length = 85 := by rw [efs15, List.length_set]; exact hlen14
  have xf15 : fs15 = [.ref q_1, .int 0, .int 0, .int 0, .int 0, .int 0, .int 0, .int 0, .int (-1), .ref q_2, .ref q_8, .ref q_12, .ref q_16, .ref q_20, .ref q_25, .ref q_28, .ref q_33, .ref q_39, .ref q_43, .ref q_46, .ref q_50, .ref q_54, .null, .int 0, .null, .null, .null, .null, .null, .int 0, .null, .int 0, .int 0, .int 0, .null, .null, .null, .null, .null, .int 0, .int 0, .null, .long 0, .long 0, .int 0, .null, .null, .int 0, .int 0, .null, .null, .null, .null, .null, .int 0, .null, .null, .null, .null, .null, .null, .null, .null, .null, .null, .null, .null, .null, .int 0, .long 0, .long 0, .null, .null, .int 0, .null, .null, .null, .null, .int 0, .int 0, .null, .null, .int 0, .null, .null] := by rw [efs15, xf14]; rfl
  obtain ⟨t14, et14⟩ : ∃ z : va_W, z = (q_54, .inl (y 1, 3, .inl f_57)) :: t13 := ⟨_, rfl⟩
  rw [← et14] at hP hD
  refine lv_aload_n hx hb dX12_init_324 rfl (lv_at hl 0 rfl) ?_
  refine lv_iconst (v := 3) hx hb dX12_init_325 (by decide) ?_
  refine x_newa (N' := 3) (a0 := (3, .inl (fun _ => 0))) (t0 := 1) (ty := .char) hx hb (hts (.arrayClass .char) (List.mem_of_getElem? (i := 63) rfl)) rfl rfl hK hP hD hS hA (x_aC 3) (by decide) (by decide) (by decide) (Nat.le_of_ble_eq_true rfl) (Nat.le_of_ble_eq_true rfl) dX12_init_326 (fun q_58 H hP hD hS => ?_)
  have hP : va_P D vwCl ((h0, .inr (11, fs15)) :: (q_58, .inl (y 1, 3, .inl (fun _ => 0))) :: t14) H := va_P.swap (a := [(h0, .inr (11, fs15))]) (b := t14) (c := [(q_58, .inl (y 1, 3, .inl (fun _ => 0)))]) hP
  have hD : va_D A ((h0, .inr (11, fs15)) :: (q_58, .inl (y 1, 3, .inl (fun _ => 0))) :: t14) := va_D.swap (a := [(h0, .inr (11, fs15))]) (b := t14) (c := [(q_58, .inl (y 1, 3, .inl (fun _ => 0)))]) hD
  refine W.widen (k := 15) (n := 746) (Nat.le_of_ble_eq_true rfl) (Nat.le_of_ble_eq_true rfl) ?_
  refine lv_dup hx hb dX12_init_328 rfl ?_
  refine lv_iconst (v := 0) hx hb dX12_init_329 (by decide) ?_
  refine lv_bipush (v := 109) hx hb dX12_init_330 (by decide) ?_
  refine va_cast hx hb hK hP hD hS 1 1 rfl rfl (x_in (by decide) (by decide)) dX12_init_332 (fun H locs hP hD hS => ?_)
  have hP : va_P D vwCl ((h0, .inr (11, fs15)) :: (q_58, .inl (y 1, 3, .inl (upd (fun _ => 0) (Int32.toNatClampNeg 0) (vp_nar .char 109)))) :: t14) H := hP
  have hD : va_D A ((h0, .inr (11, fs15)) :: (q_58, .inl (y 1, 3, .inl (upd (fun _ => 0) (Int32.toNatClampNeg 0) (vp_nar .char 109)))) :: t14) := hD
  obtain ⟨f_59, ef_59⟩ : ∃ z : Nat → Int32, z = (upd (fun _ => 0) (Int32.toNatClampNeg 0) (vp_nar .char 109)) := ⟨_, rfl⟩
  rw [← ef_59] at hP hD
  refine lv_dup hx hb dX12_init_333 rfl ?_
  refine lv_iconst (v := 1) hx hb dX12_init_334 (by decide) ?_
  refine lv_bipush (v := 97) hx hb dX12_init_335 (by decide) ?_
  refine va_cast hx hb hK hP hD hS 1 1 rfl rfl (x_in (by decide) (by decide)) dX12_init_337 (fun H locs hP hD hS => ?_)
  have hP : va_P D vwCl ((h0, .inr (11, fs15)) :: (q_58, .inl (y 1, 3, .inl (upd f_59 (Int32.toNatClampNeg 1) (vp_nar .char 97)))) :: t14) H := hP
  have hD : va_D A ((h0, .inr (11, fs15)) :: (q_58, .inl (y 1, 3, .inl (upd f_59 (Int32.toNatClampNeg 1) (vp_nar .char 97)))) :: t14) := hD
  obtain ⟨f_60, ef_60⟩ : ∃ z : Nat → Int32, z = (upd f_59 (Int32.toNatClampNeg 1) (vp_nar .char 97)) := ⟨_, rfl⟩
  rw [← ef_60] at hP hD
  refine lv_dup hx hb dX12_init_338 rfl ?_
  refine lv_iconst (v := 2) hx hb dX12_init_339 (by decide) ?_
  refine lv_bipush (v := 120) hx hb dX12_init_340 (by decide) ?_
  refine va_cast hx hb hK hP hD hS 1 1 rfl rfl (x_in (by decide) (by decide)) dX12_init_342 (fun H locs hP hD hS => ?_)
  have hP : va_P D vwCl ((h0, .inr (11, fs15)) :: (q_58, .inl (y 1, 3, .inl (upd f_60 (Int32.toNatClampNeg 2) (vp_nar .char 120)))) :: t14) H := hP
  have hD : va_D A ((h0, .inr (11, fs15)) :: (q_58, .inl (y 1, 3, .inl (upd f_60 (Int32.toNatClampNeg 2) (vp_nar .char 120)))) :: t14) := hD
  obtain ⟨f_61, ef_61⟩ : ∃ z : Nat → Int32, z = (upd f_60 (Int32.toNatClampNeg 2) (vp_nar .char 120)) := ⟨_, rfl⟩
  rw [← ef_61] at hP hD
  refine va_putF (D := D) (ci := 11) (v := .ref q_58) (ty := (.array .char)) (C := RX12) (T := TX12) (N := 85) hx hb hts inX12 tyX12 tyX12_ok nmX12 hown hK hP hD hS 0 rfl rfl 22 (by decide) fl57 (fun _ h9 => h9) rfl hmn rfl (by decide +kernel) rfl rfl (by rw [hlen15]; decide) dX12_init_343 (fun H locs hP hD hS => ?_)
  have hP : va_P D vwCl ((h0, .inr (11, (fs15.set 22 (.ref q_58)))) :: (q_58, .inl (y 1, 3, .inl f_61)) :: t14) H := hP
  have hD : va_D A ((h0, .inr (11, (fs15.set 22 (.ref q_58)))) :: (q_58, .inl (y 1, 3, .inl f_61)) :: t14) := hD
  obtain ⟨fs16, efs16⟩ : ∃ z : List Value, z = (fs15.set 22 (.ref q_58)) := ⟨_, rfl⟩
  rw [← efs16] at hP hD
  have hlen16 : fs16.length = 85 := by rw [efs16, List.length_set]; exact hlen15
  have xf16 : fs16 = [.ref q_1, .int 0, .int 0, .int 0, .int 0, .int 0, .int 0, .int 0, .int (-1), .ref q_2, .ref q_8, .ref q_12, .ref q_16, .ref q_20, .ref q_25, .ref q_28, .ref q_33, .ref q_39, .ref q_43, .ref q_46, .ref q_50, .ref q_54, .ref q_58, .int 0, .null, .null, .null, .null, .null, .int 0, .null, .int 0, .int 0, .int 0, .null, .null, .null, .null, .null, .int 0, .int 0, .null, .long 0, .long 0, .int 0, .null, .null, .int 0, .int 0, .null, .null, .null, .null, .null, .int 0, .null, .null, .null, .null, .null, .null, .null, .null, .null, .null, .null, .null, .null, .int 0, .long 0, .long 0, .null, .null, .int 0, .null, .null, .null, .null, .int 0, .int 0, .null, .null, .int 0, .null, .null] := by rw [efs16, xf15]; rfl
  obtain ⟨t15, et15⟩ : ∃ z : va_W, z = (q_58, .inl (y 1, 3, .inl f_61)) :: t14 := ⟨_, rfl⟩
  rw [← et15] at hP hD
  refine lv_aload_n hx hb dX12_init_346 rfl (lv_at hl 0 rfl) ?_
  refine lv_bipush (v := 10) hx hb dX12_init_347 (by decide) ?_
  refine x_newa (N' := 10) (a0 := (10, .inl (fun _ => 0))) (t0 := 2) (ty := .int) hx hb (hts (.arrayClass .int) (List.mem_of_getElem? (i := 62) rfl)) rfl rfl hK hP hD hS hA (x_aI 10) (by decide) (by decide) (by decide) (Nat.le_of_ble_eq_true rfl) (Nat.le_of_ble_eq_true rfl) dX12_init_349 (fun q_62 H hP hD hS => ?_)
  have hP : va_P D vwCl ((h0, .inr (11, fs16)) :: (q_62, .inl (y 2, 10, .inl (fun _ => 0))) :: t15) H := va_P.swap (a := [(h0, .inr (11, fs16))]) (b := t15) (c := [(q_62, .inl (y 2, 10, .inl (fun _ => 0)))]) hP
  have hD : va_D A ((h0, .inr (11, fs16)) :: (q_62, .inl (y 2, 10, .inl (fun _ => 0))) :: t15) := va_D.swap (a := [(h0, .inr (11, fs16))]) (b := t15) (c := [(q_62, .inl (y 2, 10, .inl (fun _ => 0)))]) hD
  refine W.widen (k := 16) (n := 756) (Nat.le_of_ble_eq_true rfl) (Nat.le_of_ble_eq_true rfl) ?_
  refine va_putF (D := D) (ci := 11) (v := .ref q_62) (ty := (.array .int)) (C := RX12) (T := TX12) (N := 85) hx hb hts inX12 tyX12 tyX12_ok nmX12 hown hK hP hD hS 0 rfl rfl 24 (by decide) fl60 (fun _ h9 => h9) rfl hmn rfl (by decide +kernel) rfl rfl (by rw [hlen16]; decide) dX12_init_351 (fun H locs hP hD hS => ?_)
  have hP : va_P D vwCl ((h0, .inr (11, (fs16.set 24 (.ref q_62)))) :: (q_62, .inl (y 2, 10, .inl (fun _ => 0))) :: t15) H := hP
  have hD : va_D A ((h0, .inr (11, (fs16.set 24 (.ref q_62)))) :: (q_62, .inl (y 2, 10, .inl (fun _ => 0))) :: t15) := hD
  obtain ⟨fs17, efs17⟩ : ∃ z : List Value, z = (fs16.set 24 (.ref q_62)) := ⟨_, rfl⟩
  rw [← efs17] at hP hD
  have hlen17 : fs17.length = 85 := by rw [efs17, List.length_set]; exact hlen16
  have xf17 : fs17 = [.ref q_1, .int 0, .int 0, .int 0, .int 0, .int 0, .int 0, .int 0, .int (-1), .ref q_2, .ref q_8, .ref q_12, .ref q_16, .ref q_20, .ref q_25, .ref q_28, .ref q_33, .ref q_39, .ref q_43, .ref q_46, .ref q_50, .ref q_54, .ref q_58, .int 0, .ref q_62, .null, .null, .null, .null, .int 0, .null, .int 0, .int 0, .int 0, .null, .null, .null, .null, .null, .int 0, .int 0, .null, .long 0, .long 0, .int 0, .null, .null, .int 0, .int 0, .null, .null, .null, .null, .null, .int 0, .null, .null, .null, .null, .null, .null, .null, .null, .null, .null, .null, .null, .null, .int 0, .long 0, .long 0, .null, .null, .int 0, .null, .null, .null, .null, .int 0, .int 0, .null, .null, .int 0, .null, .null] := by rw [efs17, xf16]; rfl
  obtain ⟨t16, et16⟩ : ∃ z : va_W, z = (q_62, .inl (y 2, 10, .inl (fun _ => 0))) :: t15 := ⟨_, rfl⟩
  rw [← et16] at hP hD
  refine lv_aload_n hx hb dX12_init_354 rfl (lv_at hl 0 rfl) ?_
  refine lv_bipush (v := 8) hx hb dX12_init_355 (by decide) ?_
  refine x_newa (N' := 8) (a0 := (8, .inl (fun _ => 0))) (t0 := 2) (ty := .int) hx hb (hts (.arrayClass .int) (List.mem_of_getElem? (i := 62) rfl)) rfl rfl hK hP hD hS hA (x_aI 8) (by decide) (by decide) (by decide) (Nat.le_of_ble_eq_true rfl) (Nat.le_of_ble_eq_true rfl) dX12_init_357 (fun q_63 H hP hD hS => ?_)
  have hP : va_P D vwCl ((h0, .inr (11, fs17)) :: (q_63, .inl (y 2, 8, .inl (fun _ => 0))) :: t16) H := va_P.swap (a := [(h0, .inr (11, fs17))]) (b := t16) (c := [(q_63, .inl (y 2, 8, .inl (fun _ => 0)))]) hP
  have hD : va_D A ((h0, .inr (11, fs17)) :: (q_63, .inl (y 2, 8, .inl (fun _ => 0))) :: t16) := va_D.swap (a := [(h0, .inr (11, fs17))]) (b := t16) (c := [(q_63, .inl (y 2, 8, .inl (fun _ => 0)))]) hD
  refine W.widen (k := 17) (n := 764) (Nat.le_of_ble_eq_true rfl) (Nat.le_of_ble_eq_true rfl) ?_
  refine va_putF (D := D) (ci := 11) (v := .ref q_63) (ty := (.array .int)) (C := RX12) (T := TX12) (N := 85) hx hb hts inX12 tyX12 tyX12_ok nmX12 hown hK hP hD hS 0 rfl rfl 25 (by decide) fl63 (fun _ h9 => h9) rfl hmn rfl (by decide +kernel) rfl rfl (by rw [hlen17]; decide) dX12_init_359 (fun H locs hP hD hS => ?_)
  have hP : va_P D vwCl ((h0, .inr (11, (fs17.set 25 (.ref q_63)))) :: (q_63, .inl (y 2, 8, .inl (fun _ => 0))) :: t16) H := hP
  have hD : va_D A ((h0, .inr (11, (fs17.set 25 (.ref q_63)))) :: (q_63, .inl (y 2, 8, .inl (fun _ => 0))) :: t16) := hD
  obtain ⟨fs18, efs18⟩ : ∃ z : List Value, z = (fs17.set 25 (.ref q_63)) := ⟨_, rfl⟩
  rw [← efs18] at hP hD
  have hlen18 : fs18.length = 85 := by rw [efs18, List.length_set]; exact hlen17
  have xf18 : fs18 = [.ref q_1, .int 0, .int 0, .int 0, .int 0, .int 0, .int 0, .int 0, .int (-1), .ref q_2, .ref q_8, .ref q_12, .ref q_16, .ref q_20, .ref q_25, .ref q_28, .ref q_33, .ref q_39, .ref q_43, .ref q_46, .ref q_50, .ref q_54, .ref q_58, .int 0, .ref q_62, .ref q_63, .null, .null, .null, .int 0, .null, .int 0, .int 0, .int 0, .null, .null, .null, .null, .null, .int 0, .int 0, .null, .long 0, .long 0, .int 0, .null, .null, .int 0, .int 0, .null, .null, .null, .null, .null, .int 0, .null, .null, .null, .null, .null, .null, .null, .null, .null, .null, .null, .null, .null, .int 0, .long 0, .long 0, .null, .null, .int 0, .null, .null, .null, .null, .int 0, .int 0, .null, .null, .int 0, .null, .null] := by rw [efs18, xf17]; rfl
  obtain ⟨t17, et17⟩ : ∃ z : va_W, z = (q_63, .inl (y 2, 8, .inl (fun _ => 0))) :: t16 := ⟨_, rfl⟩
  rw [← et17] at hP hD
  refine lv_aload_n hx hb dX12_init_362 rfl (lv_at hl 0 rfl) ?_
  refine lv_sipush (v := 1400) hx hb dX12_init_363 (by decide) ?_
  refine x_newa (N' := 1400) (a0 := (1400, .inl (fun _ => 0))) (t0 := 2) (ty := .int) hx hb (hts (.arrayClass .int) (List.mem_of_getElem? (i := 62) rfl)) rfl rfl hK hP hD hS hA (x_aI 1400) (by decide) (by decide) (by decide) (Nat.le_of_ble_eq_true rfl) (Nat.le_of_ble_eq_true rfl) dX12_init_366 (fun q_64 H hP hD hS => ?_)
  have hP : va_P D vwCl ((h0, .inr (11, fs18)) :: (q_64, .inl (y 2, 1400, .inl (fun _ => 0))) :: t17) H := va_P.swap (a := [(h0, .inr (11, fs18))]) (b := t17) (c := [(q_64, .inl (y 2, 1400, .inl (fun _ => 0)))]) hP
  have hD : va_D A ((h0, .inr (11, fs18)) :: (q_64, .inl (y 2, 1400, .inl (fun _ => 0))) :: t17) := va_D.swap (a := [(h0, .inr (11, fs18))]) (b := t17) (c := [(q_64, .inl (y 2, 1400, .inl (fun _ => 0)))]) hD
  refine W.widen (k := 18) (n := 2164) (Nat.le_of_ble_eq_true rfl) (Nat.le_of_ble_eq_true rfl) ?_
  refine va_putF (D := D) (ci := 11) (v := .ref q_64) (ty := (.array .int)) (C := RX12) (T := TX12) (N := 85) hx hb hts inX12 tyX12 tyX12_ok nmX12 hown hK hP hD hS 0 rfl rfl 26 (by decide) fl66 (fun _ h9 => h9) rfl hmn rfl (by decide +kernel) rfl rfl (by rw [hlen18]; decide) dX12_init_368 (fun H locs hP hD hS => ?_)
  have hP : va_P D vwCl ((h0, .inr (11, (fs18.set 26 (.ref q_64)))) :: (q_64, .inl (y 2, 1400, .inl (fun _ => 0))) :: t17) H := hP
  have hD : va_D A ((h0, .inr (11, (fs18.set 26 (.ref q_64)))) :: (q_64, .inl (y 2, 1400, .inl (fun _ => 0))) :: t17) := hD
  obtain ⟨fs19, efs19⟩ : ∃ z : List Value, z = (fs18.set 26 (.ref q_64)) := ⟨_, rfl⟩
  rw [← efs19] at hP hD
  have hlen19 : fs19.length = 85 := by rw [efs19, List.length_set]; exact hlen18
  have xf19 : fs19 = [.ref q_1, .int 0, .int 0, .int 0, .int 0, .int 0, .int 0, .int 0, .int (-1), .ref q_2, .ref q_8, .ref q_12, .ref q_16, .ref q_20, .ref q_25, .ref q_28, .ref q_33, .ref q_39, .ref q_43, .ref q_46, .ref q_50, .ref q_54, .ref q_58, .int 0, .ref q_62, .ref q_63, .ref q_64, .null, .null, .int 0, .null, .int 0, .int 0, .int 0, .null, .null, .null, .null, .null, .int 0, .int 0, .null, .long 0, .long 0, .int 0, .null, .null, .int 0, .int 0, .null, .null, .null, .null, .null, .int 0, .null, .null, .null, .null, .null, .null, .null, .null, .null, .null, .null, .null, .null, .int 0, .long 0, .long 0, .null, .null, .int 0, .null, .null, .null, .null, .int 0, .int 0, .null, .null, .int 0, .null, .null] := by rw [efs19, xf18]; rfl
  obtain ⟨t18, et18⟩ : ∃ z : va_W, z = (q_64, .inl (y 2, 1400, .inl (fun _ => 0))) :: t17 := ⟨_, rfl⟩
  rw [← et18] at hP hD
  refine lv_aload_n hx hb dX12_init_371 rfl (lv_at hl 0 rfl) ?_
  refine lv_sipush (v := 2400) hx hb dX12_init_372 (by decide) ?_
  refine x_newa (N' := 2400) (a0 := (2400, .inl (fun _ => 0))) (t0 := 2) (ty := .int) hx hb (hts (.arrayClass .int) (List.mem_of_getElem? (i := 62) rfl)) rfl rfl hK hP hD hS hA (x_aI 2400) (by decide) (by decide) (by decide) (Nat.le_of_ble_eq_true rfl) (Nat.le_of_ble_eq_true rfl) dX12_init_375 (fun q_65 H hP hD hS => ?_)
  have hP : va_P D vwCl ((h0, .inr (11, fs19)) :: (q_65, .inl (y 2, 2400, .inl (fun _ => 0))) :: t18) H := va_P.swap (a := [(h0, .inr (11, fs19))]) (b := t18) (c := [(q_65, .inl (y 2, 2400, .inl (fun _ => 0)))]) hP
  have hD : va_D A ((h0, .inr (11, fs19)) :: (q_65, .inl (y 2, 2400, .inl (fun _ => 0))) :: t18) := va_D.swap (a := [(h0, .inr (11, fs19))]) (b := t18) (c := [(q_65, .inl (y 2, 2400, .inl (fun _ => 0)))]) hD
  refine W.widen (k := 19) (n := 4564) (Nat.le_of_ble_eq_true rfl) (Nat.le_of_ble_eq_true rfl) ?_
  refine va_putF (D := D) (ci := 11) (v := .ref q_65) (ty := (.array .int)) (C := RX12) (T := TX12) (N := 85) hx hb hts inX12 tyX12 tyX12_ok nmX12 hown hK hP hD hS 0 rfl rfl 27 (by decide) fl69 (fun _ h9 => h9) rfl hmn rfl (by decide +kernel) rfl rfl (by rw [hlen19]; decide) dX12_init_377 (fun H locs hP hD hS => ?_)
  have hP : va_P D vwCl ((h0, .inr (11, (fs19.set 27 (.ref q_65)))) :: (q_65, .inl (y 2, 2400, .inl (fun _ => 0))) :: t18) H := hP
  have hD : va_D A ((h0, .inr (11, (fs19.set 27 (.ref q_65)))) :: (q_65, .inl (y 2, 2400, .inl (fun _ => 0))) :: t18) := hD
  obtain ⟨fs20, efs20⟩ : ∃ z : List Value, z = (fs19.set 27 (.ref q_65)) := ⟨_, rfl⟩
  rw [← efs20] at hP hD
  have hlen20 : fs20.length = 85 := by rw [efs20, List.length_set]; exact hlen19
  have xf20 : fs20 = [.ref q_1, .int 0, .int 0, .int 0, .int 0, .int 0, .int 0, .int 0, .int (-1), .ref q_2, .ref q_8, .ref q_12, .ref q_16, .ref q_20, .ref q_25, .ref q_28, .ref q_33, .ref q_39, .ref q_43, .ref q_46, .ref q_50, .ref q_54, .ref q_58, .int 0, .ref q_62, .ref q_63, .ref q_64, .ref q_65, .null, .int 0, .null, .int 0, .int 0, .int 0, .null, .null, .null, .null, .null, .int 0, .int 0, .null, .long 0, .long 0, .int 0, .null, .null, .int 0, .int 0, .null, .null, .null, .null, .null, .int 0, .null, .null, .null, .null, .null, .null, .null, .null, .null, .null, .null, .null, .null, .int 0, .long 0, .long 0, .null, .null, .int 0, .null, .null, .null, .null, .int 0, .int 0, .null, .null, .int 0, .null, .null] := by rw [efs20, xf19]; rfl
  obtain ⟨t19, et19⟩ : ∃ z : va_W, z = (q_65, .inl (y 2, 2400, .inl (fun _ => 0))) :: t18 := ⟨_, rfl⟩
  rw [← et19] at hP hD
  refine lv_aload_n hx hb dX12_init_380 rfl (lv_at hl 0 rfl) ?_
  refine lv_iconst (v := 2) hx hb dX12_init_381 (by decide) ?_
  refine x_newa (N' := 2) (a0 := (2, .inl (fun _ => 0))) (t0 := 2) (ty := .int) hx hb (hts (.arrayClass .int) (List.mem_of_getElem? (i := 62) rfl)) rfl rfl hK hP hD hS hA (x_aI 2) (by decide) (by decide) (by decide) (Nat.le_of_ble_eq_true rfl) (Nat.le_of_ble_eq_true rfl) dX12_init_382 (fun q_66 H hP hD hS => ?_)
  have hP : va_P D vwCl ((h0, .inr (11, fs20)) :: (q_66, .inl (y 2, 2, .inl (fun _ => 0))) :: t19) H := va_P.swap (a := [(h0, .inr (11, fs20))]) (b := t19) (c := [(q_66, .inl (y 2, 2, .inl (fun _ => 0)))]) hP
  have hD : va_D A ((h0, .inr (11, fs20)) :: (q_66, .inl (y 2, 2, .inl (fun _ => 0))) :: t19) := va_D.swap (a := [(h0, .inr (11, fs20))]) (b := t19) (c := [(q_66, .inl (y 2, 2, .inl (fun _ => 0)))]) hD
  refine W.widen (k := 20) (n := 4566) (Nat.le_of_ble_eq_true rfl) (Nat.le_of_ble_eq_true rfl) ?_
  refine va_putF (D := D) (ci := 11) (v := .ref q_66) (ty := (.array .int)) (C := RX12) (T := TX12) (N := 85) hx hb hts inX12 tyX12 tyX12_ok nmX12 hown hK hP hD hS 0 rfl rfl 28 (by decide) fl72 (fun _ h9 => h9) rfl hmn rfl (by decide +kernel) rfl rfl (by rw [hlen20]; decide) dX12_init_384 (fun H locs hP hD hS => ?_)
  have hP : va_P D vwCl ((h0, .inr (11, (fs20.set 28 (.ref q_66)))) :: (q_66, .inl (y 2, 2, .inl (fun _ => 0))) :: t19) H := hP
  have hD : va_D A ((h0, .inr (11, (fs20.set 28 (.ref q_66)))) :: (q_66, .inl (y 2, 2, .inl (fun _ => 0))) :: t19) := hD
  obtain ⟨fs21, efs21⟩ : ∃ z : List Value, z = (fs20.set 28 (.ref q_66)) := ⟨_, rfl⟩
  rw [← efs21] at hP hD
  have hlen21 : fs21.length = 85 := by rw [efs21, List.length_set]; exact hlen20
  have xf21 : fs21 = [.ref q_1, .int 0, .int 0, .int 0, .int 0, .int 0, .int 0, .int 0, .int (-1), .ref q_2, .ref q_8, .ref q_12, .ref q_16, .ref q_20, .ref q_25, .ref q_28, .ref q_33, .ref q_39, .ref q_43, .ref q_46, .ref q_50, .ref q_54, .ref q_58, .int 0, .ref q_62, .ref q_63, .ref q_64, .ref q_65, .ref q_66, .int 0, .null, .int 0, .int 0, .int 0, .null, .null, .null, .null, .null, .int 0, .int 0, .null, .long 0, .long 0, .int 0, .null, .null, .int 0, .int 0, .null, .null, .null, .null, .null, .int 0, .null, .null, .null, .null, .null, .null, .null, .null, .null, .null, .null, .null, .null, .int 0, .long 0, .long 0, .null, .null, .int 0, .null, .null, .null, .null, .int 0, .int 0, .null, .null, .int 0, .null, .null] := by rw [efs21, xf20]; rfl
  obtain ⟨t20, et20⟩ : ∃ z : va_W, z = (q_66, .inl (y 2, 2, .inl (fun _ => 0))) :: t19 := ⟨_, rfl⟩
  rw [← et20] at hP hD
  refine lv_aload_n hx hb dX12_init_387 rfl (lv_at hl 0 rfl) ?_
  refine lv_sipush (v := 800) hx hb dX12_init_388 (by decide) ?_
  refine x_newa (N' := 800) (a0 := (800, .inl (fun _ => 0))) (t0 := 2) (ty := .int) hx hb (hts (.arrayClass .int) (List.mem_of_getElem? (i := 62) rfl)) rfl rfl hK hP hD hS hA (x_aI 800) (by decide) (by decide) (by decide) (Nat.le_of_ble_eq_true rfl) (Nat.le_of_ble_eq_true rfl) dX12_init_391 (fun q_67 H hP hD hS => ?_)
  have hP : va_P D vwCl ((h0, .inr (11, fs21)) :: (q_67, .inl (y 2, 800, .inl (fun _ => 0))) :: t20) H := va_P.swap (a := [(h0, .inr (11, fs21))]) (b := t20) (c := [(q_67, .inl (y 2, 800, .inl (fun _ => 0)))]) hP
  have hD : va_D A ((h0, .inr (11, fs21)) :: (q_67, .inl (y 2, 800, .inl (fun _ => 0))) :: t20) := va_D.swap (a := [(h0, .inr (11, fs21))]) (b := t20) (c := [(q_67, .inl (y 2, 800, .inl (fun _ => 0)))]) hD
  refine W.widen (k := 21) (n := 5366) (Nat.le_of_ble_eq_true rfl) (Nat.le_of_ble_eq_true rfl) ?_
  refine va_putF (D := D) (ci := 11) (v := .ref q_67) (ty := (.array .int)) (C := RX12) (T := TX12) (N := 85) hx hb hts inX12 tyX12 tyX12_ok nmX12 hown hK hP hD hS 0 rfl rfl 30 (by decide) fl75 (fun _ h9 => h9) rfl hmn rfl (by decide +kernel) rfl rfl (by rw [hlen21]; decide) dX12_init_393 (fun H locs hP hD hS => ?_)
  have hP : va_P D vwCl ((h0, .inr (11, (fs21.set 30 (.ref q_67)))) :: (q_67, .inl (y 2, 800, .inl (fun _ => 0))) :: t20) H := hP
  have hD : va_D A ((h0, .inr (11, (fs21.set 30 (.ref q_67)))) :: (q_67, .inl (y 2, 800, .inl (fun _ => 0))) :: t20) := hD
  obtain ⟨fs22, efs22⟩ : ∃ z : List Value, z = (fs21.set 30 (.ref q_67)) := ⟨_, rfl⟩
  rw [← efs22] at hP hD
  have hlen22 : fs22.length = 85 := by rw [efs22, List.length_set]; exact hlen21
  have xf22 : fs22 = [.ref q_1, .int 0, .int 0, .int 0, .int 0, .int 0, .int 0, .int 0, .int (-1), .ref q_2, .ref q_8, .ref q_12, .ref q_16, .ref q_20, .ref q_25, .ref q_28, .ref q_33, .ref q_39, .ref q_43, .ref q_46, .ref q_50, .ref q_54, .ref q_58, .int 0, .ref q_62, .ref q_63, .ref q_64, .ref q_65, .ref q_66, .int 0, .ref q_67, .int 0, .int 0, .int 0, .null, .null, .null, .null, .null, .int 0, .int 0, .null, .long 0, .long 0, .int 0, .null, .null, .int 0, .int 0, .null, .null, .null, .null, .null, .int 0, .null, .null, .null, .null, .null, .null, .null, .null, .null, .null, .null, .null, .null, .int 0, .long 0, .long 0, .null, .null, .int 0, .null, .null, .null, .null, .int 0, .int 0, .null, .null, .int 0, .null, .null] := by rw [efs22, xf21]; rfl
  obtain ⟨t21, et21⟩ : ∃ z : va_W, z = (q_67, .inl (y 2, 800, .inl (fun _ => 0))) :: t20 := ⟨_, rfl⟩
  rw [← et21] at hP hD
  refine lv_aload_n hx hb dX12_init_396 rfl (lv_at hl 0 rfl) ?_
  refine lv_bipush (v := 24) hx hb dX12_init_397 (by decide) ?_
  refine x_newa (N' := 24) (a0 := (24, .inr (.inl (fun _ => 0)))) (t0 := 3) (ty := .long) hx hb (hts (.arrayClass .long) (List.mem_of_getElem? (i := 64) rfl)) rfl rfl hK hP hD hS hA (x_aJ 24) (by decide) (by decide) (by decide) (Nat.le_of_ble_eq_true rfl) (Nat.le_of_ble_eq_true rfl) dX12_init_399 (fun q_68 H hP hD hS => ?_)
  have hP : va_P D vwCl ((h0, .inr (11, fs22)) :: (q_68, .inl (y 3, 24, .inr (.inl (fun _ => 0)))) :: t21) H := va_P.swap (a := [(h0, .inr (11, fs22))]) (b := t21) (c := [(q_68, .inl (y 3, 24, .inr (.inl (fun _ => 0))))]) hP
  have hD : va_D A ((h0, .inr (11, fs22)) :: (q_68, .inl (y 3, 24, .inr (.inl (fun _ => 0)))) :: t21) := va_D.swap (a := [(h0, .inr (11, fs22))]) (b := t21) (c := [(q_68, .inl (y 3, 24, .inr (.inl (fun _ => 0))))]) hD
  refine W.widen (k := 22) (n := 5390) (Nat.le_of_ble_eq_true rfl) (Nat.le_of_ble_eq_true rfl) ?_
  refine va_putF (D := D) (ci := 11) (v := .ref q_68) (ty := (.array .long)) (C := RX12) (T := TX12) (N := 85) hx hb hts inX12 tyX12 tyX12_ok nmX12 hown hK hP hD hS 0 rfl rfl 34 (by decide) fl78 (fun _ h9 => h9) rfl hmn rfl (by decide +kernel) rfl rfl (by rw [hlen22]; decide) dX12_init_401 (fun H locs hP hD hS => ?_)
  have hP : va_P D vwCl ((h0, .inr (11, (fs22.set 34 (.ref q_68)))) :: (q_68, .inl (y 3, 24, .inr (.inl (fun _ => 0)))) :: t21) H := hP
  have hD : va_D A ((h0, .inr (11, (fs22.set 34 (.ref q_68)))) :: (q_68, .inl (y 3, 24, .inr (.inl (fun _ => 0)))) :: t21) := hD
  obtain ⟨fs23, efs23⟩ : ∃ z : List Value, z = (fs22.set 34 (.ref q_68)) := ⟨_, rfl⟩
  rw [← efs23] at hP hD
  have hlen23 : fs23.length = 85 := by rw [efs23, List.length_set]; exact hlen22
  have xf23 : fs23 = [.ref q_1, .int 0, .int 0, .int 0, .int 0, .int 0, .int 0, .int 0, .int (-1), .ref q_2, .ref q_8, .ref q_12, .ref q_16, .ref q_20, .ref q_25, .ref q_28, .ref q_33, .ref q_39, .ref q_43, .ref q_46, .ref q_50, .ref q_54, .ref q_58, .int 0, .ref q_62, .ref q_63, .ref q_64, .ref q_65, .ref q_66, .int 0, .ref q_67, .int 0, .int 0, .int 0, .ref q_68, .null, .null, .null, .null, .int 0, .int 0, .null, .long 0, .long 0, .int 0, .null, .null, .int 0, .int 0, .null, .null, .null, .null, .null, .int 0, .null, .null, .null, .null, .null, .null, .null, .null, .null, .null, .null, .null, .null, .int 0, .long 0, .long 0, .null, .null, .int 0, .null, .null, .null, .null, .int 0, .int 0, .null, .null, .int 0, .null, .null] := by rw [efs23, xf22]; rfl
  obtain ⟨t22, et22⟩ : ∃ z : va_W, z = (q_68, .inl (y 3, 24, .inr (.inl (fun _ => 0)))) :: t21 := ⟨_, rfl⟩
  rw [← et22] at hP hD
  refine lv_aload_n hx hb dX12_init_404 rfl (lv_at hl 0 rfl) ?_
  refine lv_bipush (v := 24) hx hb dX12_init_405 (by decide) ?_
  refine x_newa (N' := 24) (a0 := (24, .inl (fun _ => 0))) (t0 := 2) (ty := .int) hx hb (hts (.arrayClass .int) (List.mem_of_getElem? (i := 62) rfl)) rfl rfl hK hP hD hS hA (x_aI 24) (by decide) (by decide) (by decide) (Nat.le_of_ble_eq_true rfl) (Nat.le_of_ble_eq_true rfl) dX12_init_407 (fun q_69 H hP hD hS => ?_)
  have hP : va_P D vwCl ((h0, .inr (11, fs23)) :: (q_69, .inl (y 2, 24, .inl (fun _ => 0))) :: t22) H := va_P.swap (a := [(h0, .inr (11, fs23))]) (b := t22) (c := [(q_69, .inl (y 2, 24, .inl (fun _ => 0)))]) hP
  have hD : va_D A ((h0, .inr (11, fs23)) :: (q_69, .inl (y 2, 24, .inl (fun _ => 0))) :: t22) := va_D.swap (a := [(h0, .inr (11, fs23))]) (b := t22) (c := [(q_69, .inl (y 2, 24, .inl (fun _ => 0)))]) hD
  refine W.widen (k := 23) (n := 5414) (Nat.le_of_ble_eq_true rfl) (Nat.le_of_ble_eq_true rfl) ?_
  refine va_putF (D := D) (ci := 11) (v := .ref q_69) (ty := (.array .int)) (C := RX12) (T := TX12) (N := 85) hx hb hts inX12 tyX12 tyX12_ok nmX12 hown hK hP hD hS 0 rfl rfl 35 (by decide) fl82 (fun _ h9 => h9) rfl hmn rfl (by decide +kernel) rfl rfl (by rw [hlen23]; decide) dX12_init_409 (fun H locs hP hD hS => ?_)
  have hP : va_P D vwCl ((h0, .inr (11, (fs23.set 35 (.ref q_69)))) :: (q_69, .inl (y 2, 24, .inl (fun _ => 0))) :: t22) H := hP
  have hD : va_D A ((h0, .inr (11, (fs23.set 35 (.ref q_69)))) :: (q_69, .inl (y 2, 24, .inl (fun _ => 0))) :: t22) := hD
  obtain ⟨fs24, efs24⟩ : ∃ z : List Value, z = (fs23.set 35 (.ref q_69)) := ⟨_, rfl⟩
  rw [← efs24] at hP hD
  have hlen24 : fs24.length = 85 := by rw [efs24, List.length_set]; exact hlen23
  have xf24 : fs24 = [.ref q_1, .int 0, .int 0, .int 0, .int 0, .int 0, .int 0, .int 0, .int (-1), .ref q_2, .ref q_8, .ref q_12, .ref q_16, .ref q_20, .ref q_25, .ref q_28, .ref q_33, .ref q_39, .ref q_43, .ref q_46, .ref q_50, .ref q_54, .ref q_58, .int 0, .ref q_62, .ref q_63, .ref q_64, .ref q_65, .ref q_66, .int 0, .ref q_67, .int 0, .int 0, .int 0, .ref q_68, .ref q_69, .null, .null, .null, .int 0, .int 0, .null, .long 0, .long 0, .int 0, .null, .null, .int 0, .int 0, .null, .null, .null, .null, .null, .int 0, .null, .null, .null, .null, .null, .null, .null, .null, .null, .null, .null, .null, .null, .int 0, .long 0, .long 0, .null, .null, .int 0, .null, .null, .null, .null, .int 0, .int 0, .null, .null, .int 0, .null, .null] := by rw [efs24, xf23]; rfl
  obtain ⟨t23, et23⟩ : ∃ z : va_W, z = (q_69, .inl (y 2, 24, .inl (fun _ => 0))) :: t22 := ⟨_, rfl⟩
  rw [← et23] at hP hD
  refine lv_aload_n hx hb dX12_init_412 rfl (lv_at hl 0 rfl) ?_
  refine lv_bipush (v := 8) hx hb dX12_init_413 (by decide) ?_
  refine x_newa (N' := 8) (a0 := (8, .inl (fun _ => 0))) (t0 := 2) (ty := .int) hx hb (hts (.arrayClass .int) (List.mem_of_getElem? (i := 62) rfl)) rfl rfl hK hP hD hS hA (x_aI 8) (by decide) (by decide) (by decide) (Nat.le_of_ble_eq_true rfl) (Nat.le_of_ble_eq_true rfl) dX12_init_415 (fun q_70 H hP hD hS => ?_)
  have hP : va_P D vwCl ((h0, .inr (11, fs24)) :: (q_70, .inl (y 2, 8, .inl (fun _ => 0))) :: t23) H := va_P.swap (a := [(h0, .inr (11, fs24))]) (b := t23) (c := [(q_70, .inl (y 2, 8, .inl (fun _ => 0)))]) hP
  have hD : va_D A ((h0, .inr (11, fs24)) :: (q_70, .inl (y 2, 8, .inl (fun _ => 0))) :: t23) := va_D.swap (a := [(h0, .inr (11, fs24))]) (b := t23) (c := [(q_70, .inl (y 2, 8, .inl (fun _ => 0)))]) hD
  refine W.widen (k := 24) (n := 5422) (Nat.le_of_ble_eq_true rfl) (Nat.le_of_ble_eq_true rfl) ?_
  refine va_putF (D := D) (ci := 11) (v := .ref q_70) (ty := (.array .int)) (C := RX12) (T := TX12) (N := 85) hx hb hts inX12 tyX12 tyX12_ok nmX12 hown hK hP hD hS 0 rfl rfl 36 (by decide) fl85 (fun _ h9 => h9) rfl hmn rfl (by decide +kernel) rfl rfl (by rw [hlen24]; decide) dX12_init_417 (fun H locs hP hD hS => ?_)
  have hP : va_P D vwCl ((h0, .inr (11, (fs24.set 36 (.ref q_70)))) :: (q_70, .inl (y 2, 8, .inl (fun _ => 0))) :: t23) H := hP
  have hD : va_D A ((h0, .inr (11, (fs24.set 36 (.ref q_70)))) :: (q_70, .inl (y 2, 8, .inl (fun _ => 0))) :: t23) := hD
  obtain ⟨fs25, efs25⟩ : ∃ z : List Value, z = (fs24.set 36 (.ref q_70)) := ⟨_, rfl⟩
  rw [← efs25] at hP hD
  have hlen25 : fs25.length = 85 := by rw [efs25, List.length_set]; exact hlen24
  have xf25 : fs25 = [.ref q_1, .int 0, .int 0, .int 0, .int 0, .int 0, .int 0, .int 0, .int (-1), .ref q_2, .ref q_8, .ref q_12, .ref q_16, .ref q_20, .ref q_25, .ref q_28, .ref q_33, .ref q_39, .ref q_43, .ref q_46, .ref q_50, .ref q_54, .ref q_58, .int 0, .ref q_62, .ref q_63, .ref q_64, .ref q_65, .ref q_66, .int 0, .ref q_67, .int 0, .int 0, .int 0, .ref q_68, .ref q_69, .ref q_70, .null, .null, .int 0, .int 0, .null, .long 0, .long 0, .int 0, .null, .null, .int 0, .int 0, .null, .null, .null, .null, .null, .int 0, .null, .null, .null, .null, .null, .null, .null, .null, .null, .null, .null, .null, .null, .int 0, .long 0, .long 0, .null, .null, .int 0, .null, .null, .null, .null, .int 0, .int 0, .null, .null, .int 0, .null, .null] := by rw [efs25, xf24]; rfl
  obtain ⟨t24, et24⟩ : ∃ z : va_W, z = (q_70, .inl (y 2, 8, .inl (fun _ => 0))) :: t23 := ⟨_, rfl⟩
  rw [← et24] at hP hD
  refine lv_aload_n hx hb dX12_init_420 rfl (lv_at hl 0 rfl) ?_
  refine lv_bipush (v := 8) hx hb dX12_init_421 (by decide) ?_
  refine x_newa (N' := 8) (a0 := (8, .inl (fun _ => 0))) (t0 := 2) (ty := .int) hx hb (hts (.arrayClass .int) (List.mem_of_getElem? (i := 62) rfl)) rfl rfl hK hP hD hS hA (x_aI 8) (by decide) (by decide) (by decide) (Nat.le_of_ble_eq_true rfl) (Nat.le_of_ble_eq_true rfl) dX12_init_423 (fun q_71 H hP hD hS => ?_)
  have hP : va_P D vwCl ((h0, .inr (11, fs25)) :: (q_71, .inl (y 2, 8, .inl (fun _ => 0))) :: t24) H := va_P.swap (a := [(h0, .inr (11, fs25))]) (b := t24) (c := [(q_71, .inl (y 2, 8, .inl (fun _ => 0)))]) hP
  have hD : va_D A ((h0, .inr (11, fs25)) :: (q_71, .inl (y 2, 8, .inl (fun _ => 0))) :: t24) := va_D.swap (a := [(h0, .inr (11, fs25))]) (b := t24) (c := [(q_71, .inl (y 2, 8, .inl (fun _ => 0)))]) hD
  refine W.widen (k := 25) (n := 5430) (Nat.le_of_ble_eq_true rfl) (Nat.le_of_ble_eq_true rfl) ?_
  refine va_putF (D := D) (ci := 11) (v := .ref q_71) (ty := (.array .int)) (C := RX12) (T := TX12) (N := 85) hx hb hts inX12 tyX12 tyX12_ok nmX12 hown hK hP hD hS 0 rfl rfl 37 (by decide) fl88 (fun _ h9 => h9) rfl hmn rfl (by decide +kernel) rfl rfl (by rw [hlen25]; decide) dX12_init_425 (fun H locs hP hD hS => ?_)
  have hP : va_P D vwCl ((h0, .inr (11, (fs25.set 37 (.ref q_71)))) :: (q_71, .inl (y 2, 8, .inl (fun _ => 0))) :: t24) H := hP
  have hD : va_D A ((h0, .inr (11, (fs25.set 37 (.ref q_71)))) :: (q_71, .inl (y 2, 8, .inl (fun _ => 0))) :: t24) := hD
  obtain ⟨fs26, efs26⟩ : ∃ z : List Value, z = (fs25.set 37 (.ref q_71)) := ⟨_, rfl⟩
  rw [← efs26] at hP hD
  have hlen26 : fs26.length = 85 := by rw [efs26, List.length_set]; exact hlen25
  have xf26 : fs26 = [.ref q_1, .int 0, .int 0, .int 0, .int 0, .int 0, .int 0, .int 0, .int (-1), .ref q_2, .ref q_8, .ref q_12, .ref q_16, .ref q_20, .ref q_25, .ref q_28, .ref q_33, .ref q_39, .ref q_43, .ref q_46, .ref q_50, .ref q_54, .ref q_58, .int 0, .ref q_62, .ref q_63, .ref q_64, .ref q_65, .ref q_66, .int 0, .ref q_67, .int 0, .int 0, .int 0, .ref q_68, .ref q_69, .ref q_70, .ref q_71, .null, .int 0, .int 0, .null, .long 0, .long 0, .int 0, .null, .null, .int 0, .int 0, .null, .null, .null, .null, .null, .int 0, .null, .null, .null, .null, .null, .null, .null, .null, .null, .null, .null, .null, .null, .int 0, .long 0, .long 0, .null, .null, .int 0, .null, .null, .null, .null, .int 0, .int 0, .null, .null, .int 0, .null, .null] := by rw [efs26, xf25]; rfl
  obtain ⟨t25, et25⟩ : ∃ z : va_W, z = (q_71, .inl (y 2, 8, .inl (fun _ => 0))) :: t24 := ⟨_, rfl⟩
  rw [← et25] at hP hD
  refine lv_aload_n hx hb dX12_init_428 rfl (lv_at hl 0 rfl) ?_
  refine lv_bipush (v := 8) hx hb dX12_init_429 (by decide) ?_
  refine x_newa (N' := 8) (a0 := (8, .inl (fun _ => 0))) (t0 := 2) (ty := .int) hx hb (hts (.arrayClass .int) (List.mem_of_getElem? (i := 62) rfl)) rfl rfl hK hP hD hS hA (x_aI 8) (by decide) (by decide) (by decide) (Nat.le_of_ble_eq_true rfl) (Nat.le_of_ble_eq_true rfl) dX12_init_431 (fun q_72 H hP hD hS => ?_)
  have hP : va_P D vwCl ((h0, .inr (11, fs26)) :: (q_72, .inl (y 2, 8, .inl (fun _ => 0))) :: t25) H := va_P.swap (a := [(h0, .inr (11, fs26))]) (b := t25) (c := [(q_72, .inl (y 2, 8, .inl (fun _ => 0)))]) hP
  have hD : va_D A ((h0, .inr (11, fs26)) :: (q_72, .inl (y 2, 8, .inl (fun _ => 0))) :: t25) := va_D.swap (a := [(h0, .inr (11, fs26))]) (b := t25) (c := [(q_72, .inl (y 2, 8, .inl (fun _ => 0)))]) hD
  refine W.widen (k := 26) (n := 5438) (Nat.le_of_ble_eq_true rfl) (Nat.le_of_ble_eq_true rfl) ?_
  refine va_putF (D := D) (ci := 11) (v := .ref q_72) (ty := (.array .int)) (C := RX12) (T := TX12) (N := 85) hx hb hts inX12 tyX12 tyX12_ok nmX12 hown hK hP hD hS 0 rfl rfl 38 (by decide) fl91 (fun _ h9 => h9) rfl hmn rfl (by decide +kernel) rfl rfl (by rw [hlen26]; decide) dX12_init_433 (fun H locs hP hD hS => ?_)
  have hP : va_P D vwCl ((h0, .inr (11, (fs26.set 38 (.ref q_72)))) :: (q_72, .inl (y 2, 8, .inl (fun _ => 0))) :: t25) H := hP
  have hD : va_D A ((h0, .inr (11, (fs26.set 38 (.ref q_72)))) :: (q_72, .inl (y 2, 8, .inl (fun _ => 0))) :: t25) := hD
  obtain ⟨fs27, efs27⟩ : ∃ z : List Value, z = (fs26.set 38 (.ref q_72)) := ⟨_, rfl⟩
  rw [← efs27] at hP hD
  have hlen27 : fs27.length = 85 := by rw [efs27, List.length_set]; exact hlen26
  have xf27 : fs27 = [.ref q_1, .int 0, .int 0, .int 0, .int 0, .int 0, .int 0, .int 0, .int (-1), .ref q_2, .ref q_8, .ref q_12, .ref q_16, .ref q_20, .ref q_25, .ref q_28, .ref q_33, .ref q_39, .ref q_43, .ref q_46, .ref q_50, .ref q_54, .ref q_58, .int 0, .ref q_62, .ref q_63, .ref q_64, .ref q_65, .ref q_66, .int 0, .ref q_67, .int 0, .int 0, .int 0, .ref q_68, .ref q_69, .ref q_70, .ref q_71, .ref q_72, .int 0, .int 0, .null, .long 0, .long 0, .int 0, .null, .null, .int 0, .int 0, .null, .null, .null, .null, .null, .int 0, .null, .null, .null, .null, .null, .null, .null, .null, .null, .null, .null, .null, .null, .int 0, .long 0, .long 0, .null, .null, .int 0, .null, .null, .null, .null, .int 0, .int 0, .null, .null, .int 0, .null, .null] := by rw [efs27, xf26]; rfl
  obtain ⟨t26, et26⟩ : ∃ z : va_W, z = (q_72, .inl (y 2, 8, .inl (fun _ => 0))) :: t25 := ⟨_, rfl⟩
  rw [← et26] at hP hD
  refine lv_aload_n hx hb dX12_init_436 rfl (lv_at hl 0 rfl) ?_
  refine lv_sipush (v := 700) hx hb dX12_init_437 (by decide) ?_
  refine x_newa (N' := 700) (a0 := (700, .inl (fun _ => 0))) (t0 := 2) (ty := .int) hx hb (hts (.arrayClass .int) (List.mem_of_getElem? (i := 62) rfl)) rfl rfl hK hP hD hS hA (x_aI 700) (by decide) (by decide) (by decide) (Nat.le_of_ble_eq_true rfl) (Nat.le_of_ble_eq_true rfl) dX12_init_440 (fun q_73 H hP hD hS => ?_)
  have hP : va_P D vwCl ((h0, .inr (11, fs27)) :: (q_73, .inl (y 2, 700, .inl (fun _ => 0))) :: t26) H := va_P.swap (a := [(h0, .inr (11, fs27))]) (b := t26) (c := [(q_73, .inl (y 2, 700, .inl (fun _ => 0)))]) hP
  have hD : va_D A ((h0, .inr (11, fs27)) :: (q_73, .inl (y 2, 700, .inl (fun _ => 0))) :: t26) := va_D.swap (a := [(h0, .inr (11, fs27))]) (b := t26) (c := [(q_73, .inl (y 2, 700, .inl (fun _ => 0)))]) hD
  refine W.widen (k := 27) (n := 6138) (Nat.le_of_ble_eq_true rfl) (Nat.le_of_ble_eq_true rfl) ?_
  refine va_putF (D := D) (ci := 11) (v := .ref q_73) (ty := (.array .int)) (C := RX12) (T := TX12) (N := 85) hx hb hts inX12 tyX12 tyX12_ok nmX12 hown hK hP hD hS 0 rfl rfl 41 (by decide) fl94 (fun _ h9 => h9) rfl hmn rfl (by decide +kernel) rfl rfl (by rw [hlen27]; decide) dX12_init_442 (fun H locs hP hD hS => ?_)
  have hP : va_P D vwCl ((h0, .inr (11, (fs27.set 41 (.ref q_73)))) :: (q_73, .inl (y 2, 700, .inl (fun _ => 0))) :: t26) H := hP
  have hD : va_D A ((h0, .inr (11, (fs27.set 41 (.ref q_73)))) :: (q_73, .inl (y 2, 700, .inl (fun _ => 0))) :: t26) := hD
  obtain ⟨fs28, efs28⟩ : ∃ z : List Value, z = (fs27.set 41 (.ref q_73)) := ⟨_, rfl⟩
  rw [← efs28] at hP hD
  have hlen28 : fs28.length = 85 := by rw [efs28, List.length_set]; exact hlen27
  have xf28 : fs28 = [.ref q_1, .int 0, .int 0, .int 0, .int 0, .int 0, .int 0, .int 0, .int (-1), .ref q_2, .ref q_8, .ref q_12, .ref q_16, .ref q_20, .ref q_25, .ref q_28, .ref q_33, .ref q_39, .ref q_43, .ref q_46, .ref q_50, .ref q_54, .ref q_58, .int 0, .ref q_62, .ref q_63, .ref q_64, .ref q_65, .ref q_66, .int 0, .ref q_67, .int 0, .int 0, .int 0, .ref q_68, .ref q_69, .ref q_70, .ref q_71, .ref q_72, .int 0, .int 0, .ref q_73, .long 0, .long 0, .int 0, .null, .null, .int 0, .int 0, .null, .null, .null, .null, .null, .int 0, .null, .null, .null, .null, .null, .null, .null, .null, .null, .null, .null, .null, .null, .int 0, .long 0, .long 0, .null, .null, .int 0, .null, .null, .null, .null, .int 0, .int 0, .null, .null, .int 0, .null, .null] := by rw [efs28, xf27]; rfl
  obtain ⟨t27, et27⟩ : ∃ z : va_W, z = (q_73, .inl (y 2, 700, .inl (fun _ => 0))) :: t26 := ⟨_, rfl⟩
  rw [← et27] at hP hD
  refine lv_aload_n hx hb dX12_init_445 rfl (lv_at hl 0 rfl) ?_
  refine lv_bipush (v := 8) hx hb dX12_init_446 (by decide) ?_
  refine x_newa (N' := 8) (a0 := (8, .inr (.inl (fun _ => 0)))) (t0 := 3) (ty := .long) hx hb (hts (.arrayClass .long) (List.mem_of_getElem? (i := 64) rfl)) rfl rfl hK hP hD hS hA (x_aJ 8) (by decide) (by decide) (by decide) (Nat.le_of_ble_eq_true rfl) (Nat.le_of_ble_eq_true rfl) dX12_init_448 (fun q_74 H hP hD hS => ?_)
  have hP : va_P D vwCl ((h0, .inr (11, fs28)) :: (q_74, .inl (y 3, 8, .inr (.inl (fun _ => 0)))) :: t27) H := va_P.swap (a := [(h0, .inr (11, fs28))]) (b := t27) (c := [(q_74, .inl (y 3, 8, .inr (.inl (fun _ => 0))))]) hP
  have hD : va_D A ((h0, .inr (11, fs28)) :: (q_74, .inl (y 3, 8, .inr (.inl (fun _ => 0)))) :: t27) := va_D.swap (a := [(h0, .inr (11, fs28))]) (b := t27) (c := [(q_74, .inl (y 3, 8, .inr (.inl (fun _ => 0))))]) hD
  refine W.widen (k := 28) (n := 6146) (Nat.le_of_ble_eq_true rfl) (Nat.le_of_ble_eq_true rfl) ?_
  refine va_putF (D := D) (ci := 11) (v := .ref q_74) (ty := (.array .long)) (C := RX12) (T := TX12) (N := 85) hx hb hts inX12 tyX12 tyX12_ok nmX12 hown hK hP hD hS 0 rfl rfl 45 (by decide) fl97 (fun _ h9 => h9) rfl hmn rfl (by decide +kernel) rfl rfl (by rw [hlen28]; decide) dX12_init_450 (fun H locs hP hD hS => ?_)
  have hP : va_P D vwCl ((h0, .inr (11, (fs28.set 45 (.ref q_74)))) :: (q_74, .inl (y 3, 8, .inr (.inl (fun _ => 0)))) :: t27) H := hP
  have hD : va_D A ((h0, .inr (11, (fs28.set 45 (.ref q_74)))) :: (q_74, .inl (y 3, 8, .inr (.inl (fun _ => 0)))) :: t27) := hD
  obtain ⟨fs29, efs29⟩ : ∃ z : List Value, z = (fs28.set 45 (.ref q_74)) := ⟨_, rfl⟩
  rw [← efs29] at hP hD
  have hlen29 : fs29.length = 85 := by rw [efs29, List.length_set]; exact hlen28
  have xf29 : fs29 = [.ref q_1, .int 0, .int 0, .int 0, .int 0, .int 0, .int 0, .int 0, .int (-1), .ref q_2, .ref q_8, .ref q_12, .ref q_16, .ref q_20, .ref q_25, .ref q_28, .ref q_33, .ref q_39, .ref q_43, .ref q_46, .ref q_50, .ref q_54, .ref q_58, .int 0, .ref q_62, .ref q_63, .ref q_64, .ref q_65, .ref q_66, .int 0, .ref q_67, .int 0, .int 0, .int 0, .ref q_68, .ref q_69, .ref q_70, .ref q_71, .ref q_72, .int 0, .int 0, .ref q_73, .long 0, .long 0, .int 0, .ref q_74, .null, .int 0, .int 0, .null, .null, .null, .null, .null, .int 0, .null, .null, .null, .null, .null, .null, .null, .null, .null, .null, .null, .null, .null, .int 0, .long 0, .long 0, .null, .null, .int 0, .null, .null, .null, .null, .int 0, .int 0, .null, .null, .int 0, .null, .null] := by rw [efs29, xf28]; rfl
  obtain ⟨t28, et28⟩ : ∃ z : va_W, z = (q_74, .inl (y 3, 8, .inr (.inl (fun _ => 0)))) :: t27 := ⟨_, rfl⟩
  rw [← et28] at hP hD
  refine lv_aload_n hx hb dX12_init_453 rfl (lv_at hl 0 rfl) ?_
  refine lv_bipush (v := 8) hx hb dX12_init_454 (by decide) ?_
  refine x_newa (N' := 8) (a0 := (8, .inr (.inl (fun _ => 0)))) (t0 := 3) (ty := .long) hx hb (hts (.arrayClass .long) (List.mem_of_getElem? (i := 64) rfl)) rfl rfl hK hP hD hS hA (x_aJ 8) (by decide) (by decide) (by decide) (Nat.le_of_ble_eq_true rfl) (Nat.le_of_ble_eq_true rfl) dX12_init_456 (fun q_75 H hP hD hS => ?_)
  have hP : va_P D vwCl ((h0, .inr (11, fs29)) :: (q_75, .inl (y 3, 8, .inr (.inl (fun _ => 0)))) :: t28) H := va_P.swap (a := [(h0, .inr (11, fs29))]) (b := t28) (c := [(q_75, .inl (y 3, 8, .inr (.inl (fun _ => 0))))]) hP
  have hD : va_D A ((h0, .inr (11, fs29)) :: (q_75, .inl (y 3, 8, .inr (.inl (fun _ => 0)))) :: t28) := va_D.swap (a := [(h0, .inr (11, fs29))]) (b := t28) (c := [(q_75, .inl (y 3, 8, .inr (.inl (fun _ => 0))))]) hD
  refine W.widen (k := 29) (n := 6154) (Nat.le_of_ble_eq_true rfl) (Nat.le_of_ble_eq_true rfl) ?_
  refine lv_dup hx hb dX12_init_458 rfl ?_
  refine lv_iconst (v := 0) hx hb dX12_init_459 (by decide) ?_
  refine lv_lconst (v := 1) hx hb dX12_init_460 (by decide) ?_
  refine va_last hx hb hK hP hD hS 1 3 rfl rfl (x_in (by decide) (by decide)) dX12_init_461 (fun H locs hP hD hS => ?_)
  have hP : va_P D vwCl ((h0, .inr (11, fs29)) :: (q_75, .inl (y 3, 8, .inr (.inl (vp_updL (fun _ => 0) (Int32.toNatClampNeg 0) 1)))) :: t28) H := hP
  have hD : va_D A ((h0, .inr (11, fs29)) :: (q_75, .inl (y 3, 8, .inr (.inl (vp_updL (fun _ => 0) (Int32.toNatClampNeg 0) 1)))) :: t28) := hD
  refine lv_dup hx hb dX12_init_462 rfl ?_
  refine lv_iconst (v := 1) hx hb dX12_init_463 (by decide) ?_
  refine lv_lconst (v := 1) hx hb dX12_init_464 (by decide) ?_
  refine va_last hx hb hK hP hD hS 1 3 rfl rfl (x_in (by decide) (by decide)) dX12_init_465 (fun H locs hP hD hS => ?_)
  have hP : va_P D vwCl ((h0, .inr (11, fs29)) :: (q_75, .inl (y 3, 8, .inr (.inl (vp_updL (vp_updL (fun _ => 0) (Int32.toNatClampNeg 0) 1) (Int32.toNatClampNeg 1) 1)))) :: t28) H := hP
  have hD : va_D A ((h0, .inr (11, fs29)) :: (q_75, .inl (y 3, 8, .inr (.inl (vp_updL (vp_updL (fun _ => 0) (Int32.toNatClampNeg 0) 1) (Int32.toNatClampNeg 1) 1)))) :: t28) := hD
  refine lv_dup hx hb dX12_init_466 rfl ?_
  refine lv_iconst (v := 2) hx hb dX12_init_467 (by decide) ?_
  refine lv_lconst (v := 1) hx hb dX12_init_468 (by decide) ?_
  refine va_last hx hb hK hP hD hS 1 3 rfl rfl (x_in (by decide) (by decide)) dX12_init_469 (fun H locs hP hD hS => ?_)
  have hP : va_P D vwCl ((h0, .inr (11, fs29)) :: (q_75, .inl (y 3, 8, .inr (.inl (vp_updL (vp_updL (vp_updL (fun _ => 0) (Int32.toNatClampNeg 0) 1) (Int32.toNatClampNeg 1) 1) (Int32.toNatClampNeg 2) 1)))) :: t28) H := hP
  have hD : va_D A ((h0, .inr (11, fs29)) :: (q_75, .inl (y 3, 8, .inr (.inl (vp_updL (vp_updL (vp_updL (fun _ => 0) (Int32.toNatClampNeg 0) 1) (Int32.toNatClampNeg 1) 1) (Int32.toNatClampNeg 2) 1)))) :: t28) := hD
  refine lv_dup hx hb dX12_init_470 rfl ?_
  refine lv_iconst (v := 3) hx hb dX12_init_471 (by decide) ?_
  refine lv_lconst (v := 1) hx hb dX12_init_472 (by decide) ?_
  refine va_last hx hb hK hP hD hS 1 3 rfl rfl (x_in (by decide) (by decide)) dX12_init_473 (fun H locs hP hD hS => ?_)
  have hP : va_P D vwCl ((h0, .inr (11, fs29)) :: (q_75, .inl (y 3, 8, .inr (.inl (vp_updL (vp_updL (vp_updL (vp_updL (fun _ => 0) (Int32.toNatClampNeg 0) 1) (Int32.toNatClampNeg 1) 1) (Int32.toNatClampNeg 2) 1) (Int32.toNatClampNeg 3) 1)))) :: t28) H := hP
  have hD : va_D A ((h0, .inr (11, fs29)) :: (q_75, .inl (y 3, 8, .inr (.inl (vp_updL (vp_updL (vp_updL (vp_updL (fun _ => 0) (Int32.toNatClampNeg 0) 1) (Int32.toNatClampNeg 1) 1) (Int32.toNatClampNeg 2) 1) (Int32.toNatClampNeg 3) 1)))) :: t28) := hD
  refine lv_dup hx hb dX12_init_474 rfl ?_
  refine lv_iconst (v := 4) hx hb dX12_init_475 (by decide) ?_
  refine lv_lconst (v := 1) hx hb dX12_init_476 (by decide) ?_
  refine va_last hx hb hK hP hD hS 1 3 rfl rfl (x_in (by decide) (by decide)) dX12_init_477 (fun H locs hP hD hS => ?_)
  have hP : va_P D vwCl ((h0, .inr (11, fs29)) :: (q_75, .inl (y 3, 8, .inr (.inl (vp_updL (vp_updL (vp_updL (vp_updL (vp_updL (fun _ => 0) (Int32.toNatClampNeg 0) 1) (Int32.toNatClampNeg 1) 1) (Int32.toNatClampNeg 2) 1) (Int32.toNatClampNeg 3) 1) (Int32.toNatClampNeg 4) 1)))) :: t28) H := hP
  have hD : va_D A ((h0, .inr (11, fs29)) :: (q_75, .inl (y 3, 8, .inr (.inl (vp_updL (vp_updL (vp_updL (vp_updL (vp_updL (fun _ => 0) (Int32.toNatClampNeg 0) 1) (Int32.toNatClampNeg 1) 1) (Int32.toNatClampNeg 2) 1) (Int32.toNatClampNeg 3) 1) (Int32.toNatClampNeg 4) 1)))) :: t28) := hD
  refine lv_dup hx hb dX12_init_478 rfl ?_
  refine lv_iconst (v := 5) hx hb dX12_init_479 (by decide) ?_
  refine lv_lconst (v := 1) hx hb dX12_init_480 (by decide) ?_
  refine va_last hx hb hK hP hD hS 1 3 rfl rfl (x_in (by decide) (by decide)) dX12_init_481 (fun H locs hP hD hS => ?_)
  have hP : va_P D vwCl ((h0, .inr (11, fs29)) :: (q_75, .inl (y 3, 8, .inr (.inl (vp_updL (vp_updL (vp_updL (vp_updL (vp_updL (vp_updL (fun _ => 0) (Int32.toNatClampNeg 0) 1) (Int32.toNatClampNeg 1) 1) (Int32.toNatClampNeg 2) 1) (Int32.toNatClampNeg 3) 1) (Int32.toNatClampNeg 4) 1) (Int32.toNatClampNeg 5) 1)))) :: t28) H := hP
  have hD : va_D A ((h0, .inr (11, fs29)) :: (q_75, .inl (y 3, 8, .inr (.inl (vp_updL (vp_updL (vp_updL (vp_updL (vp_updL (vp_updL (fun _ => 0) (Int32.toNatClampNeg 0) 1) (Int32.toNatClampNeg 1) 1) (Int32.toNatClampNeg 2) 1) (Int32.toNatClampNeg 3) 1) (Int32.toNatClampNeg 4) 1) (Int32.toNatClampNeg 5) 1)))) :: t28) := hD
  refine lv_dup hx hb dX12_init_482 rfl ?_
  refine lv_bipush (v := 6) hx hb dX12_init_483 (by decide) ?_
  refine lv_lconst (v := 1) hx hb dX12_init_485 (by decide) ?_
  refine va_last hx hb hK hP hD hS 1 3 rfl rfl (x_in (by decide) (by decide)) dX12_init_486 (fun H locs hP hD hS => ?_)
  have hP : va_P D vwCl ((h0, .inr (11, fs29)) :: (q_75, .inl (y 3, 8, .inr (.inl (vp_updL (vp_updL (vp_updL (vp_updL (vp_updL (vp_updL (vp_updL (fun _ => 0) (Int32.toNatClampNeg 0) 1) (Int32.toNatClampNeg 1) 1) (Int32.toNatClampNeg 2) 1) (Int32.toNatClampNeg 3) 1) (Int32.toNatClampNeg 4) 1) (Int32.toNatClampNeg 5) 1) (Int32.toNatClampNeg 6) 1)))) :: t28) H := hP
  have hD : va_D A ((h0, .inr (11, fs29)) :: (q_75, .inl (y 3, 8, .inr (.inl (vp_updL (vp_updL (vp_updL (vp_updL (vp_updL (vp_updL (vp_updL (fun _ => 0) (Int32.toNatClampNeg 0) 1) (Int32.toNatClampNeg 1) 1) (Int32.toNatClampNeg 2) 1) (Int32.toNatClampNeg 3) 1) (Int32.toNatClampNeg 4) 1) (Int32.toNatClampNeg 5) 1) (Int32.toNatClampNeg 6) 1)))) :: t28) := hD
  refine lv_dup hx hb dX12_init_487 rfl ?_
  refine lv_bipush (v := 7) hx hb dX12_init_488 (by decide) ?_
  refine lv_lconst (v := 1) hx hb dX12_init_490 (by decide) ?_
  refine va_last hx hb hK hP hD hS 1 3 rfl rfl (x_in (by decide) (by decide)) dX12_init_491 (fun H locs hP hD hS => ?_)
  have hP : va_P D vwCl ((h0, .inr (11, fs29)) :: (q_75, .inl (y 3, 8, .inr (.inl (vp_updL (vp_updL (vp_updL (vp_updL (vp_updL (vp_updL (vp_updL (vp_updL (fun _ => 0) (Int32.toNatClampNeg 0) 1) (Int32.toNatClampNeg 1) 1) (Int32.toNatClampNeg 2) 1) (Int32.toNatClampNeg 3) 1) (Int32.toNatClampNeg 4) 1) (Int32.toNatClampNeg 5) 1) (Int32.toNatClampNeg 6) 1) (Int32.toNatClampNeg 7) 1)))) :: t28) H := hP
  have hD : va_D A ((h0, .inr (11, fs29)) :: (q_75, .inl (y 3, 8, .inr (.inl (vp_updL (vp_updL (vp_updL (vp_updL (vp_updL (vp_updL (vp_updL (vp_updL (fun _ => 0) (Int32.toNatClampNeg 0) 1) (Int32.toNatClampNeg 1) 1) (Int32.toNatClampNeg 2) 1) (Int32.toNatClampNeg 3) 1) (Int32.toNatClampNeg 4) 1) (Int32.toNatClampNeg 5) 1) (Int32.toNatClampNeg 6) 1) (Int32.toNatClampNeg 7) 1)))) :: t28) := hD
  refine va_putF (D := D) (ci := 11) (v := .ref q_75) (ty := (.array .long)) (C := RX12) (T := TX12) (N := 85) hx hb hts inX12 tyX12 tyX12_ok nmX12 hown hK hP hD hS 0 rfl rfl 46 (by decide) fl100 (fun _ h9 => h9) rfl hmn rfl (by decide +kernel) rfl rfl (by rw [hlen29]; decide) dX12_init_492 (fun H locs hP hD hS => ?_)
  have hP : va_P D vwCl ((h0, .inr (11, (fs29.set 46 (.ref q_75)))) :: (q_75, .inl (y 3, 8, .inr (.inl (vp_updL (vp_updL (vp_updL (vp_updL (vp_updL (vp_updL (vp_updL (vp_updL (fun _ => 0) (Int32.toNatClampNeg 0) 1) (Int32.toNatClampNeg 1) 1) (Int32.toNatClampNeg 2) 1) (Int32.toNatClampNeg 3) 1) (Int32.toNatClampNeg 4) 1) (Int32.toNatClampNeg 5) 1) (Int32.toNatClampNeg 6) 1) (Int32.toNatClampNeg 7) 1)))) :: t28) H := hP
  have hD : va_D A ((h0, .inr (11, (fs29.set 46 (.ref q_75)))) :: (q_75, .inl (y 3, 8, .inr (.inl (vp_updL (vp_updL (vp_updL (vp_updL (vp_updL (vp_updL (vp_updL (vp_updL (fun _ => 0) (Int32.toNatClampNeg 0) 1) (Int32.toNatClampNeg 1) 1) (Int32.toNatClampNeg 2) 1) (Int32.toNatClampNeg 3) 1) (Int32.toNatClampNeg 4) 1) (Int32.toNatClampNeg 5) 1) (Int32.toNatClampNeg 6) 1) (Int32.toNatClampNeg 7) 1)))) :: t28) := hD
  obtain ⟨fs30, efs30⟩ : ∃ z : List Value, z = (fs29.set 46 (.ref q_75)) := ⟨_, rfl⟩
  rw [← efs30] at hP hD
  have hlen30 : fs30.length = 85 := by rw [efs30, List.length_set]; exact hlen29
  have xf30 : fs30 = [.ref q_1, .int 0, .int 0, .int 0, .int 0, .int 0, .int 0, .int 0, .int (-1), .ref q_2, .ref q_8, .ref q_12, .ref q_16, .ref q_20, .ref q_25, .ref q_28, .ref q_33, .ref q_39, .ref q_43, .ref q_46, .ref q_50, .ref q_54, .ref q_58, .int 0, .ref q_62, .ref q_63, .ref q_64, .ref q_65, .ref q_66, .int 0, .ref q_67, .int 0, .int 0, .int 0, .ref q_68, .ref q_69, .ref q_70, .ref q_71, .ref q_72, .int 0, .int 0, .ref q_73, .long 0, .long 0, .int 0, .ref q_74, .ref q_75, .int 0, .int 0, .null, .null, .null, .null, .null, .int 0, .null, .null, .null, .null, .null, .null, .null, .null, .null, .null, .null, .null, .null, .int 0, .long 0, .long 0, .null, .null, .int 0, .null, .null, .null, .null, .int 0, .int 0, .null, .null, .int 0, .null, .null] := by rw [efs30, xf29]; rfl
  obtain ⟨t29, et29⟩ : ∃ z : va_W, z = (q_75, .inl (y 3, 8, .inr (.inl (vp_updL (vp_updL (vp_updL (vp_updL (vp_updL (vp_updL (vp_updL (vp_updL (fun _ => 0) (Int32.toNatClampNeg 0) 1) (Int32.toNatClampNeg 1) 1) (Int32.toNatClampNeg 2) 1) (Int32.toNatClampNeg 3) 1) (Int32.toNatClampNeg 4) 1) (Int32.toNatClampNeg 5) 1) (Int32.toNatClampNeg 6) 1) (Int32.toNatClampNeg 7) 1)))) :: t28 := ⟨_, rfl⟩
  rw [← et29] at hP hD
  refine lv_aload_n hx hb dX12_init_495 rfl (lv_at hl 0 rfl) ?_
  refine lv_bipush (v := 41) hx hb dX12_init_496 (by decide) ?_
  refine x_newa (N' := 41) (a0 := (41, .inl (fun _ => 0))) (t0 := 2) (ty := .int) hx hb (hts (.arrayClass .int) (List.mem_of_getElem? (i := 62) rfl)) rfl rfl hK hP hD hS hA (x_aI 41) (by decide) (by decide) (by decide) (Nat.le_of_ble_eq_true rfl) (Nat.le_of_ble_eq_true rfl) dX12_init_498 (fun q_76 H hP hD hS => ?_)
  have hP : va_P D vwCl ((h0, .inr (11, fs30)) :: (q_76, .inl (y 2, 41, .inl (fun _ => 0))) :: t29) H := va_P.swap (a := [(h0, .inr (11, fs30))]) (b := t29) (c := [(q_76, .inl (y 2, 41, .inl (fun _ => 0)))]) hP
  have hD : va_D A ((h0, .inr (11, fs30)) :: (q_76, .inl (y 2, 41, .inl (fun _ => 0))) :: t29) := va_D.swap (a := [(h0, .inr (11, fs30))]) (b := t29) (c := [(q_76, .inl (y 2, 41, .inl (fun _ => 0)))]) hD
  refine W.widen (k := 30) (n := 6195) (Nat.le_of_ble_eq_true rfl) (Nat.le_of_ble_eq_true rfl) ?_
  refine va_putF (D := D) (ci := 11) (v := .ref q_76) (ty := (.array .int)) (C := RX12) (T := TX12) (N := 85) hx hb hts inX12 tyX12 tyX12_ok nmX12 hown hK hP hD hS 0 rfl rfl 49 (by decide) fl103 (fun _ h9 => h9) rfl hmn rfl (by decide +kernel) rfl rfl (by rw [hlen30]; decide) dX12_init_500 (fun H locs hP hD hS => ?_)
  have hP : va_P D vwCl ((h0, .inr (11, (fs30.set 49 (.ref q_76)))) :: (q_76, .inl (y 2, 41, .inl (fun _ => 0))) :: t29) H := hP
  have hD : va_D A ((h0, .inr (11, (fs30.set 49 (.ref q_76)))) :: (q_76, .inl (y 2, 41, .inl (fun _ => 0))) :: t29) := hD
  obtain ⟨fs31, efs31⟩ : ∃ z : List Value, z = (fs30.set 49 (.ref q_76)) := ⟨_, rfl⟩
  rw [← efs31] at hP hD
  have hlen31 : fs31.length = 85 := by rw [efs31, List.length_set]; exact hlen30
  have xf31 : fs31 = [.ref q_1, .int 0, .int 0, .int 0, .int 0, .int 0, .int 0, .int 0, .int (-1), .ref q_2, .ref q_8, .ref q_12, .ref q_16, .ref q_20, .ref q_25, .ref q_28, .ref q_33, .ref q_39, .ref q_43, .ref q_46, .ref q_50, .ref q_54, .ref q_58, .int 0, .ref q_62, .ref q_63, .ref q_64, .ref q_65, .ref q_66, .int 0, .ref q_67, .int 0, .int 0, .int 0, .ref q_68, .ref q_69, .ref q_70, .ref q_71, .ref q_72, .int 0, .int 0, .ref q_73, .long 0, .long 0, .int 0, .ref q_74, .ref q_75, .int 0, .int 0, .ref q_76, .null, .null, .null, .null, .int 0, .null, .null, .null, .null, .null, .null, .null, .null, .null, .null, .null, .null, .null, .int 0, .long 0, .long 0, .null, .null, .int 0, .null, .null, .null, .null, .int 0, .int 0, .null, .null, .int 0, .null, .null] := by rw [efs31, xf30]; rfl
  obtain ⟨t30, et30⟩ : ∃ z : va_W, z = (q_76, .inl (y 2, 41, .inl (fun _ => 0))) :: t29 := ⟨_, rfl⟩
  rw [← et30] at hP hD
  refine lv_aload_n hx hb dX12_init_503 rfl (lv_at hl 0 rfl) ?_
  refine lv_bipush (v := 41) hx hb dX12_init_504 (by decide) ?_
  refine x_newa (N' := 41) (a0 := (41, .inr (.inl (fun _ => 0)))) (t0 := 3) (ty := .long) hx hb (hts (.arrayClass .long) (List.mem_of_getElem? (i := 64) rfl)) rfl rfl hK hP hD hS hA (x_aJ 41) (by decide) (by decide) (by decide) (Nat.le_of_ble_eq_true rfl) (Nat.le_of_ble_eq_true rfl) dX12_init_506 (fun q_77 H hP hD hS => ?_)
  have hP : va_P D vwCl ((h0, .inr (11, fs31)) :: (q_77, .inl (y 3, 41, .inr (.inl (fun _ => 0)))) :: t30) H := va_P.swap (a := [(h0, .inr (11, fs31))]) (b := t30) (c := [(q_77, .inl (y 3, 41, .inr (.inl (fun _ => 0))))]) hP
  have hD : va_D A ((h0, .inr (11, fs31)) :: (q_77, .inl (y 3, 41, .inr (.inl (fun _ => 0)))) :: t30) := va_D.swap (a := [(h0, .inr (11, fs31))]) (b := t30) (c := [(q_77, .inl (y 3, 41, .inr (.inl (fun _ => 0))))]) hD
  refine W.widen (k := 31) (n := 6236) (Nat.le_of_ble_eq_true rfl) (Nat.le_of_ble_eq_true rfl) ?_
  refine va_putF (D := D) (ci := 11) (v := .ref q_77) (ty := (.array .long)) (C := RX12) (T := TX12) (N := 85) hx hb hts inX12 tyX12 tyX12_ok nmX12 hown hK hP hD hS 0 rfl rfl 50 (by decide) fl106 (fun _ h9 => h9) rfl hmn rfl (by decide +kernel) rfl rfl (by rw [hlen31]; decide) dX12_init_508 (fun H locs hP hD hS => ?_)
  have hP : va_P D vwCl ((h0, .inr (11, (fs31.set 50 (.ref q_77)))) :: (q_77, .inl (y 3, 41, .inr (.inl (fun _ => 0)))) :: t30) H := hP
  have hD : va_D A ((h0, .inr (11, (fs31.set 50 (.ref q_77)))) :: (q_77, .inl (y 3, 41, .inr (.inl (fun _ => 0)))) :: t30) := hD
  obtain ⟨fs32, efs32⟩ : ∃ z : List Value, z = (fs31.set 50 (.ref q_77)) := ⟨_, rfl⟩
  rw [← efs32] at hP hD
  have hlen32 : fs32.length = 85 := by rw [efs32, List.length_set]; exact hlen31
  have xf32 : fs32 = [.ref q_1, .int 0, .int 0, .int 0, .int 0, .int 0, .int 0, .int 0, .int (-1), .ref q_2, .ref q_8, .ref q_12, .ref q_16, .ref q_20, .ref q_25, .ref q_28, .ref q_33, .ref q_39, .ref q_43, .ref q_46, .ref q_50, .ref q_54, .ref q_58, .int 0, .ref q_62, .ref q_63, .ref q_64, .ref q_65, .ref q_66, .int 0, .ref q_67, .int 0, .int 0, .int 0, .ref q_68, .ref q_69, .ref q_70, .ref q_71, .ref q_72, .int 0, .int 0, .ref q_73, .long 0, .long 0, .int 0, .ref q_74, .ref q_75, .int 0, .int 0, .ref q_76, .ref q_77, .null, .null, .null, .int 0, .null, .null, .null, .null, .null, .null, .null, .null, .null, .null, .null, .null, .null, .int 0, .long 0, .long 0, .null, .null, .int 0, .null, .null, .null, .null, .int 0, .int 0, .null, .null, .int 0, .null, .null] := by rw [efs32, xf31]; rfl
  obtain ⟨t31, et31⟩ : ∃ z : va_W, z = (q_77, .inl (y 3, 41, .inr (.inl (fun _ => 0)))) :: t30 := ⟨_, rfl⟩
  rw [← et31] at hP hD
  refine lv_aload_n hx hb dX12_init_511 rfl (lv_at hl 0 rfl) ?_
  refine lv_bipush (v := 41) hx hb dX12_init_512 (by decide) ?_
  refine x_newa (N' := 41) (a0 := (41, .inr (.inl (fun _ => 0)))) (t0 := 3) (ty := .long) hx hb (hts (.arrayClass .long) (List.mem_of_getElem? (i := 64) rfl)) rfl rfl hK hP hD hS hA (x_aJ 41) (by decide) (by decide) (by decide) (Nat.le_of_ble_eq_true rfl) (Nat.le_of_ble_eq_true rfl) dX12_init_514 (fun q_78 H hP hD hS => ?_)
  have hP : va_P D vwCl ((h0, .inr (11, fs32)) :: (q_78, .inl (y 3, 41, .inr (.inl (fun _ => 0)))) :: t31) H := va_P.swap (a := [(h0, .inr (11, fs32))]) (b := t31) (c := [(q_78, .inl (y 3, 41, .inr (.inl (fun _ => 0))))]) hP
  have hD : va_D A ((h0, .inr (11, fs32)) :: (q_78, .inl (y 3, 41, .inr (.inl (fun _ => 0)))) :: t31) := va_D.swap (a := [(h0, .inr (11, fs32))]) (b := t31) (c := [(q_78, .inl (y 3, 41, .inr (.inl (fun _ => 0))))]) hD
  refine W.widen (k := 32) (n := 6277) (Nat.le_of_ble_eq_true rfl) (Nat.le_of_ble_eq_true rfl) ?_
  refine va_putF (D := D) (ci := 11) (v := .ref q_78) (ty := (.array .long)) (C := RX12) (T := TX12) (N := 85) hx hb hts inX12 tyX12 tyX12_ok nmX12 hown hK hP hD hS 0 rfl rfl 51 (by decide) fl109 (fun _ h9 => h9) rfl hmn rfl (by decide +kernel) rfl rfl (by rw [hlen32]; decide) dX12_init_516 (fun H locs hP hD hS => ?_)
  have hP : va_P D vwCl ((h0, .inr (11, (fs32.set 51 (.ref q_78)))) :: (q_78, .inl (y 3, 41, .inr (.inl (fun _ => 0)))) :: t31) H := hP
  have hD : va_D A ((h0, .inr (11, (fs32.set 51 (.ref q_78)))) :: (q_78, .inl (y 3, 41, .inr (.inl (fun _ => 0)))) :: t31) := hD
  obtain ⟨fs33, efs33⟩ : ∃ z : List Value, z = (fs32.set 51 (.ref q_78)) := ⟨_, rfl⟩
  rw [← efs33] at hP hD
  have hlen33 : fs33.length = 85 := by rw [efs33, List.length_set]; exact hlen32
  have xf33 : fs33 = [.ref q_1, .int 0, .int 0, .int 0, .int 0, .int 0, .int 0, .int 0, .int (-1), .ref q_2, .ref q_8, .ref q_12, .ref q_16, .ref q_20, .ref q_25, .ref q_28, .ref q_33, .ref q_39, .ref q_43, .ref q_46, .ref q_50, .ref q_54, .ref q_58, .int 0, .ref q_62, .ref q_63, .ref q_64, .ref q_65, .ref q_66, .int 0, .ref q_67, .int 0, .int 0, .int 0, .ref q_68, .ref q_69, .ref q_70, .ref q_71, .ref q_72, .int 0, .int 0, .ref q_73, .long 0, .long 0, .int 0, .ref q_74, .ref q_75, .int 0, .int 0, .ref q_76, .ref q_77, .ref q_78, .null, .null, .int 0, .null, .null, .null, .null, .null, .null, .null, .null, .null, .null, .null, .null, .null, .int 0, .long 0, .long 0, .null, .null, .int 0, .null, .null, .null, .null, .int 0, .int 0, .null, .null, .int 0, .null, .null] := by rw [efs33, xf32]; rfl
  obtain ⟨t32, et32⟩ : ∃ z : va_W, z = (q_78, .inl (y 3, 41, .inr (.inl (fun _ => 0)))) :: t31 := ⟨_, rfl⟩
  rw [← et32] at hP hD
  refine lv_aload_n hx hb dX12_init_519 rfl (lv_at hl 0 rfl) ?_
  refine lv_bipush (v := 41) hx hb dX12_init_520 (by decide) ?_
  refine x_newa (N' := 41) (a0 := (41, .inr (.inl (fun _ => 0)))) (t0 := 3) (ty := .long) hx hb (hts (.arrayClass .long) (List.mem_of_getElem? (i := 64) rfl)) rfl rfl hK hP hD hS hA (x_aJ 41) (by decide) (by decide) (by decide) (Nat.le_of_ble_eq_true rfl) (Nat.le_of_ble_eq_true rfl) dX12_init_522 (fun q_79 H hP hD hS => ?_)
  have hP : va_P D vwCl ((h0, .inr (11, fs33)) :: (q_79, .inl (y 3, 41, .inr (.inl (fun _ => 0)))) :: t32) H := va_P.swap (a := [(h0, .inr (11, fs33))]) (b := t32) (c := [(q_79, .inl (y 3, 41, .inr (.inl (fun _ => 0))))]) hP
  have hD : va_D A ((h0, .inr (11, fs33)) :: (q_79, .inl (y 3, 41, .inr (.inl (fun _ => 0)))) :: t32) := va_D.swap (a := [(h0, .inr (11, fs33))]) (b := t32) (c := [(q_79, .inl (y 3, 41, .inr (.inl (fun _ => 0))))]) hD
  refine W.widen (k := 33) (n := 6318) (Nat.le_of_ble_eq_true rfl) (Nat.le_of_ble_eq_true rfl) ?_
  refine va_putF (D := D) (ci := 11) (v := .ref q_79) (ty := (.array .long)) (C := RX12) (T := TX12) (N := 85) hx hb hts inX12 tyX12 tyX12_ok nmX12 hown hK hP hD hS 0 rfl rfl 52 (by decide) fl112 (fun _ h9 => h9) rfl hmn rfl (by decide +kernel) rfl rfl (by rw [hlen33]; decide) dX12_init_524 (fun H locs hP hD hS => ?_)
  have hP : va_P D vwCl ((h0, .inr (11, (fs33.set 52 (.ref q_79)))) :: (q_79, .inl (y 3, 41, .inr (.inl (fun _ => 0)))) :: t32) H := hP
  have hD : va_D A ((h0, .inr (11, (fs33.set 52 (.ref q_79)))) :: (q_79, .inl (y 3, 41, .inr (.inl (fun _ => 0)))) :: t32) := hD
  obtain ⟨fs34, efs34⟩ : ∃ z : List Value, z = (fs33.set 52 (.ref q_79)) := ⟨_, rfl⟩
  rw [← efs34] at hP hD
  have hlen34 : fs34.length = 85 := by rw [efs34, List.length_set]; exact hlen33
  have xf34 : fs34 = [.ref q_1, .int 0, .int 0, .int 0, .int 0, .int 0, .int 0, .int 0, .int (-1), .ref q_2, .ref q_8, .ref q_12, .ref q_16, .ref q_20, .ref q_25, .ref q_28, .ref q_33, .ref q_39, .ref q_43, .ref q_46, .ref q_50, .ref q_54, .ref q_58, .int 0, .ref q_62, .ref q_63, .ref q_64, .ref q_65, .ref q_66, .int 0, .ref q_67, .int 0, .int 0, .int 0, .ref q_68, .ref q_69, .ref q_70, .ref q_71, .ref q_72, .int 0, .int 0, .ref q_73, .long 0, .long 0, .int 0, .ref q_74, .ref q_75, .int 0, .int 0, .ref q_76, .ref q_77, .ref q_78, .ref q_79, .null, .int 0, .null, .null, .null, .null, .null, .null, .null, .null, .null, .null, .null, .null, .null, .int 0, .long 0, .long 0, .null, .null, .int 0, .null, .null, .null, .null, .int 0, .int 0, .null, .null, .int 0, .null, .null] := by rw [efs34, xf33]; rfl
  obtain ⟨t33, et33⟩ : ∃ z : va_W, z = (q_79, .inl (y 3, 41, .inr (.inl (fun _ => 0)))) :: t32 := ⟨_, rfl⟩
  rw [← et33] at hP hD
  refine lv_aload_n hx hb dX12_init_527 rfl (lv_at hl 0 rfl) ?_
  refine lv_bipush (v := 41) hx hb dX12_init_528 (by decide) ?_
  refine x_newa (N' := 41) (a0 := (41, .inr (.inl (fun _ => 0)))) (t0 := 3) (ty := .long) hx hb (hts (.arrayClass .long) (List.mem_of_getElem? (i := 64) rfl)) rfl rfl hK hP hD hS hA (x_aJ 41) (by decide) (by decide) (by decide) (Nat.le_of_ble_eq_true rfl) (Nat.le_of_ble_eq_true rfl) dX12_init_530 (fun q_80 H hP hD hS => ?_)
  have hP : va_P D vwCl ((h0, .inr (11, fs34)) :: (q_80, .inl (y 3, 41, .inr (.inl (fun _ => 0)))) :: t33) H := va_P.swap (a := [(h0, .inr (11, fs34))]) (b := t33) (c := [(q_80, .inl (y 3, 41, .inr (.inl (fun _ => 0))))]) hP
  have hD : va_D A ((h0, .inr (11, fs34)) :: (q_80, .inl (y 3, 41, .inr (.inl (fun _ => 0)))) :: t33) := va_D.swap (a := [(h0, .inr (11, fs34))]) (b := t33) (c := [(q_80, .inl (y 3, 41, .inr (.inl (fun _ => 0))))]) hD
  refine W.widen (k := 34) (n := 6359) (Nat.le_of_ble_eq_true rfl) (Nat.le_of_ble_eq_true rfl) ?_
  refine va_putF (D := D) (ci := 11) (v := .ref q_80) (ty := (.array .long)) (C := RX12) (T := TX12) (N := 85) hx hb hts inX12 tyX12 tyX12_ok nmX12 hown hK hP hD hS 0 rfl rfl 53 (by decide) fl115 (fun _ h9 => h9) rfl hmn rfl (by decide +kernel) rfl rfl (by rw [hlen34]; decide) dX12_init_532 (fun H locs hP hD hS => ?_)
  have hP : va_P D vwCl ((h0, .inr (11, (fs34.set 53 (.ref q_80)))) :: (q_80, .inl (y 3, 41, .inr (.inl (fun _ => 0)))) :: t33) H := hP
  have hD : va_D A ((h0, .inr (11, (fs34.set 53 (.ref q_80)))) :: (q_80, .inl (y 3, 41, .inr (.inl (fun _ => 0)))) :: t33) := hD
  obtain ⟨fs35, efs35⟩ : ∃ z : List Value, z = (fs34.set 53 (.ref q_80)) := ⟨_, rfl⟩
  rw [← efs35] at hP hD
  have hlen35 : fs35.length = 85 := by rw [efs35, List.length_set]; exact hlen34
  have xf35 : fs35 = [.ref q_1, .int 0, .int 0, .int 0, .int 0, .int 0, .int 0, .int 0, .int (-1), .ref q_2, .ref q_8, .ref q_12, .ref q_16, .ref q_20, .ref q_25, .ref q_28, .ref q_33, .ref q_39, .ref q_43, .ref q_46, .ref q_50, .ref q_54, .ref q_58, .int 0, .ref q_62, .ref q_63, .ref q_64, .ref q_65, .ref q_66, .int 0, .ref q_67, .int 0, .int 0, .int 0, .ref q_68, .ref q_69, .ref q_70, .ref q_71, .ref q_72, .int 0, .int 0, .ref q_73, .long 0, .long 0, .int 0, .ref q_74, .ref q_75, .int 0, .int 0, .ref q_76, .ref q_77, .ref q_78, .ref q_79, .ref q_80, .int 0, .null, .null, .null, .null, .null, .null, .null, .null, .null, .null, .null, .null, .null, .int 0, .long 0, .long 0, .null, .null, .int 0, .null, .null, .null, .null, .int 0, .int 0, .null, .null, .int 0, .null, .null] := by rw [efs35, xf34]; rfl
  obtain ⟨t34, et34⟩ : ∃ z : va_W, z = (q_80, .inl (y 3, 41, .inr (.inl (fun _ => 0)))) :: t33 := ⟨_, rfl⟩
  rw [← et34] at hP hD
  refine lv_aload_n hx hb dX12_init_535 rfl (lv_at hl 0 rfl) ?_
  refine lv_bipush (v := 16) hx hb dX12_init_536 (by decide) ?_
  refine x_newa (N' := 16) (a0 := (16, .inr (.inl (fun _ => 0)))) (t0 := 3) (ty := .long) hx hb (hts (.arrayClass .long) (List.mem_of_getElem? (i := 64) rfl)) rfl rfl hK hP hD hS hA (x_aJ 16) (by decide) (by decide) (by decide) (Nat.le_of_ble_eq_true rfl) (Nat.le_of_ble_eq_true rfl) dX12_init_538 (fun q_81 H hP hD hS => ?_)
  have hP : va_P D vwCl ((h0, .inr (11, fs35)) :: (q_81, .inl (y 3, 16, .inr (.inl (fun _ => 0)))) :: t34) H := va_P.swap (a := [(h0, .inr (11, fs35))]) (b := t34) (c := [(q_81, .inl (y 3, 16, .inr (.inl (fun _ => 0))))]) hP
  have hD : va_D A ((h0, .inr (11, fs35)) :: (q_81, .inl (y 3, 16, .inr (.inl (fun _ => 0)))) :: t34) := va_D.swap (a := [(h0, .inr (11, fs35))]) (b := t34) (c := [(q_81, .inl (y 3, 16, .inr (.inl (fun _ => 0))))]) hD
  refine W.widen (k := 35) (n := 6375) (Nat.le_of_ble_eq_true rfl) (Nat.le_of_ble_eq_true rfl) ?_
  refine va_putF (D := D) (ci := 11) (v := .ref q_81) (ty := (.array .long)) (C := RX12) (T := TX12) (N := 85) hx hb hts inX12 tyX12 tyX12_ok nmX12 hown hK hP hD hS 0 rfl rfl 55 (by decide) fl118 (fun _ h9 => h9) rfl hmn rfl (by decide +kernel) rfl rfl (by rw [hlen35]; decide) dX12_init_540 (fun H locs hP hD hS => ?_)
  have hP : va_P D vwCl ((h0, .inr (11, (fs35.set 55 (.ref q_81)))) :: (q_81, .inl (y 3, 16, .inr (.inl (fun _ => 0)))) :: t34) H := hP
  have hD : va_D A ((h0, .inr (11, (fs35.set 55 (.ref q_81)))) :: (q_81, .inl (y 3, 16, .inr (.inl (fun _ => 0)))) :: t34) := hD
  obtain ⟨fs36, efs36⟩ : ∃ z : List Value, z = (fs35.set 55 (.ref q_81)) := ⟨_, rfl⟩
  rw [← efs36] at hP hD
  have hlen36 : fs36.length = 85 := by rw [efs36, List.length_set]; exact hlen35
  have xf36 : fs36 = [.ref q_1, .int 0, .int 0, .int 0, .int 0, .int 0, .int 0, .int 0, .int (-1), .ref q_2, .ref q_8, .ref q_12, .ref q_16, .ref q_20, .ref q_25, .ref q_28, .ref q_33, .ref q_39, .ref q_43, .ref q_46, .ref q_50, .ref q_54, .ref q_58, .int 0, .ref q_62, .ref q_63, .ref q_64, .ref q_65, .ref q_66, .int 0, .ref q_67, .int 0, .int 0, .int 0, .ref q_68, .ref q_69, .ref q_70, .ref q_71, .ref q_72, .int 0, .int 0, .ref q_73, .long 0, .long 0, .int 0, .ref q_74, .ref q_75, .int 0, .int 0, .ref q_76, .ref q_77, .ref q_78, .ref q_79, .ref q_80, .int 0, .ref q_81, .null, .null, .null, .null, .null, .null, .null, .null, .null, .null, .null, .null, .int 0, .long 0, .long 0, .null, .null, .int 0, .null, .null, .null, .null, .int 0, .int 0, .null, .null, .int 0, .null, .null] := by rw [efs36, xf35]; rfl
  obtain ⟨t35, et35⟩ : ∃ z : va_W, z = (q_81, .inl (y 3, 16, .inr (.inl (fun _ => 0)))) :: t34 := ⟨_, rfl⟩
  rw [← et35] at hP hD
  refine lv_aload_n hx hb dX12_init_543 rfl (lv_at hl 0 rfl) ?_
  refine lv_bipush (v := 16) hx hb dX12_init_544 (by decide) ?_
  refine x_newa (N' := 16) (a0 := (16, .inr (.inl (fun _ => 0)))) (t0 := 3) (ty := .long) hx hb (hts (.arrayClass .long) (List.mem_of_getElem? (i := 64) rfl)) rfl rfl hK hP hD hS hA (x_aJ 16) (by decide) (by decide) (by decide) (Nat.le_of_ble_eq_true rfl) (Nat.le_of_ble_eq_true rfl) dX12_init_546 (fun q_82 H hP hD hS => ?_)
  have hP : va_P D vwCl ((h0, .inr (11, fs36)) :: (q_82, .inl (y 3, 16, .inr (.inl (fun _ => 0)))) :: t35) H := va_P.swap (a := [(h0, .inr (11, fs36))]) (b := t35) (c := [(q_82, .inl (y 3, 16, .inr (.inl (fun _ => 0))))]) hP
  have hD : va_D A ((h0, .inr (11, fs36)) :: (q_82, .inl (y 3, 16, .inr (.inl (fun _ => 0)))) :: t35) := va_D.swap (a := [(h0, .inr (11, fs36))]) (b := t35) (c := [(q_82, .inl (y 3, 16, .inr (.inl (fun _ => 0))))]) hD
  refine W.widen (k := 36) (n := 6391) (Nat.le_of_ble_eq_true rfl) (Nat.le_of_ble_eq_true rfl) ?_
  refine va_putF (D := D) (ci := 11) (v := .ref q_82) (ty := (.array .long)) (C := RX12) (T := TX12) (N := 85) hx hb hts inX12 tyX12 tyX12_ok nmX12 hown hK hP hD hS 0 rfl rfl 56 (by decide) fl121 (fun _ h9 => h9) rfl hmn rfl (by decide +kernel) rfl rfl (by rw [hlen36]; decide) dX12_init_548 (fun H locs hP hD hS => ?_)
  have hP : va_P D vwCl ((h0, .inr (11, (fs36.set 56 (.ref q_82)))) :: (q_82, .inl (y 3, 16, .inr (.inl (fun _ => 0)))) :: t35) H := hP
  have hD : va_D A ((h0, .inr (11, (fs36.set 56 (.ref q_82)))) :: (q_82, .inl (y 3, 16, .inr (.inl (fun _ => 0)))) :: t35) := hD
  obtain ⟨fs37, efs37⟩ : ∃ z : List Value, z = (fs36.set 56 (.ref q_82)) := ⟨_, rfl⟩
  rw [← efs37] at hP hD
  have hlen37 : fs37.length = 85 := by rw [efs37, List.length_set]; exact hlen36
  have xf37 : fs37 = [.ref q_1, .int 0, .int 0, .int 0, .int 0, .int 0, .int 0, .int 0, .int (-1), .ref q_2, .ref q_8, .ref q_12, .ref q_16, .ref q_20, .ref q_25, .ref q_28, .ref q_33, .ref q_39, .ref q_43, .ref q_46, .ref q_50, .ref q_54, .ref q_58, .int 0, .ref q_62, .ref q_63, .ref q_64, .ref q_65, .ref q_66, .int 0, .ref q_67, .int 0, .int 0, .int 0, .ref q_68, .ref q_69, .ref q_70, .ref q_71, .ref q_72, .int 0, .int 0, .ref q_73, .long 0, .long 0, .int 0, .ref q_74, .ref q_75, .int 0, .int 0, .ref q_76, .ref q_77, .ref q_78, .ref q_79, .ref q_80, .int 0, .ref q_81, .ref q_82, .null, .null, .null, .null, .null, .null, .null, .null, .null, .null, .null, .int 0, .long 0, .long 0, .null, .null, .int 0, .null, .null, .null, .null, .int 0, .int 0, .null, .null, .int 0, .null, .null] := by rw [efs37, xf36]; rfl
  obtain ⟨t36, et36⟩ : ∃ z : va_W, z = (q_82, .inl (y 3, 16, .inr (.inl (fun _ => 0)))) :: t35 := ⟨_, rfl⟩
  rw [← et36] at hP hD
  refine lv_aload_n hx hb dX12_init_551 rfl (lv_at hl 0 rfl) ?_
  refine lv_sipush (v := 3520) hx hb dX12_init_552 (by decide) ?_
  refine x_newa (N' := 3520) (a0 := (3520, .inr (.inl (fun _ => 0)))) (t0 := 3) (ty := .long) hx hb (hts (.arrayClass .long) (List.mem_of_getElem? (i := 64) rfl)) rfl rfl hK hP hD hS hA (x_aJ 3520) (by decide) (by decide) (by decide) (Nat.le_of_ble_eq_true rfl) (Nat.le_of_ble_eq_true rfl) dX12_init_555 (fun q_83 H hP hD hS => ?_)
  have hP : va_P D vwCl ((h0, .inr (11, fs37)) :: (q_83, .inl (y 3, 3520, .inr (.inl (fun _ => 0)))) :: t36) H := va_P.swap (a := [(h0, .inr (11, fs37))]) (b := t36) (c := [(q_83, .inl (y 3, 3520, .inr (.inl (fun _ => 0))))]) hP
  have hD : va_D A ((h0, .inr (11, fs37)) :: (q_83, .inl (y 3, 3520, .inr (.inl (fun _ => 0)))) :: t36) := va_D.swap (a := [(h0, .inr (11, fs37))]) (b := t36) (c := [(q_83, .inl (y 3, 3520, .inr (.inl (fun _ => 0))))]) hD
  refine W.widen (k := 37) (n := 9911) (Nat.le_of_ble_eq_true rfl) (Nat.le_of_ble_eq_true rfl) ?_
  refine va_putF (D := D) (ci := 11) (v := .ref q_83) (ty := (.array .long)) (C := RX12) (T := TX12) (N := 85) hx hb hts inX12 tyX12 tyX12_ok nmX12 hown hK hP hD hS 0 rfl rfl 57 (by decide) fl124 (fun _ h9 => h9) rfl hmn rfl (by decide +kernel) rfl rfl (by rw [hlen37]; decide) dX12_init_557 (fun H locs hP hD hS => ?_)
  have hP : va_P D vwCl ((h0, .inr (11, (fs37.set 57 (.ref q_83)))) :: (q_83, .inl (y 3, 3520, .inr (.inl (fun _ => 0)))) :: t36) H := hP
  have hD : va_D A ((h0, .inr (11, (fs37.set 57 (.ref q_83)))) :: (q_83, .inl (y 3, 3520, .inr (.inl (fun _ => 0)))) :: t36) := hD
  obtain ⟨fs38, efs38⟩ : ∃ z : List Value, z = (fs37.set 57 (.ref q_83)) := ⟨_, rfl⟩
  rw [← efs38] at hP hD
  have hlen38 : fs38.length = 85 := by rw [efs38, List.length_set]; exact hlen37
  have xf38 : fs38 = [.ref q_1, .int 0, .int 0, .int 0, .int 0, .int 0, .int 0, .int 0, .int (-1), .ref q_2, .ref q_8, .ref q_12, .ref q_16, .ref q_20, .ref q_25, .ref q_28, .ref q_33, .ref q_39, .ref q_43, .ref q_46, .ref q_50, .ref q_54, .ref q_58, .int 0, .ref q_62, .ref q_63, .ref q_64, .ref q_65, .ref q_66, .int 0, .ref q_67, .int 0, .int 0, .int 0, .ref q_68, .ref q_69, .ref q_70, .ref q_71, .ref q_72, .int 0, .int 0, .ref q_73, .long 0, .long 0, .int 0, .ref q_74, .ref q_75, .int 0, .int 0, .ref q_76, .ref q_77, .ref q_78, .ref q_79, .ref q_80, .int 0, .ref q_81, .ref q_82, .ref q_83, .null, .null, .null, .null, .null, .null, .null, .null, .null, .null, .int 0, .long 0, .long 0, .null, .null, .int 0, .null, .null, .null, .null, .int 0, .int 0, .null, .null, .int 0, .null, .null] := by rw [efs38, xf37]; rfl
  obtain ⟨t37, et37⟩ : ∃ z : va_W, z = (q_83, .inl (y 3, 3520, .inr (.inl (fun _ => 0)))) :: t36 := ⟨_, rfl⟩
  rw [← et37] at hP hD
  refine lv_aload_n hx hb dX12_init_560 rfl (lv_at hl 0 rfl) ?_
  refine lv_sipush (v := 3520) hx hb dX12_init_561 (by decide) ?_
  refine x_newa (N' := 3520) (a0 := (3520, .inr (.inl (fun _ => 0)))) (t0 := 3) (ty := .long) hx hb (hts (.arrayClass .long) (List.mem_of_getElem? (i := 64) rfl)) rfl rfl hK hP hD hS hA (x_aJ 3520) (by decide) (by decide) (by decide) (Nat.le_of_ble_eq_true rfl) (Nat.le_of_ble_eq_true rfl) dX12_init_564 (fun q_84 H hP hD hS => ?_)
  have hP : va_P D vwCl ((h0, .inr (11, fs38)) :: (q_84, .inl (y 3, 3520, .inr (.inl (fun _ => 0)))) :: t37) H := va_P.swap (a := [(h0, .inr (11, fs38))]) (b := t37) (c := [(q_84, .inl (y 3, 3520, .inr (.inl (fun _ => 0))))]) hP
  have hD : va_D A ((h0, .inr (11, fs38)) :: (q_84, .inl (y 3, 3520, .inr (.inl (fun _ => 0)))) :: t37) := va_D.swap (a := [(h0, .inr (11, fs38))]) (b := t37) (c := [(q_84, .inl (y 3, 3520, .inr (.inl (fun _ => 0))))]) hD
  refine W.widen (k := 38) (n := 13431) (Nat.le_of_ble_eq_true rfl) (Nat.le_of_ble_eq_true rfl) ?_
  refine va_putF (D := D) (ci := 11) (v := .ref q_84) (ty := (.array .long)) (C := RX12) (T := TX12) (N := 85) hx hb hts inX12 tyX12 tyX12_ok nmX12 hown hK hP hD hS 0 rfl rfl 58 (by decide) fl127 (fun _ h9 => h9) rfl hmn rfl (by decide +kernel) rfl rfl (by rw [hlen38]; decide) dX12_init_566 (fun H locs hP hD hS => ?_)
  have hP : va_P D vwCl ((h0, .inr (11, (fs38.set 58 (.ref q_84)))) :: (q_84, .inl (y 3, 3520, .inr (.inl (fun _ => 0)))) :: t37) H := hP
  have hD : va_D A ((h0, .inr (11, (fs38.set 58 (.ref q_84)))) :: (q_84, .inl (y 3, 3520, .inr (.inl (fun _ => 0)))) :: t37) := hD
  obtain ⟨fs39, efs39⟩ : ∃ z : List Value, z = (fs38.set 58 (.ref q_84)) := ⟨_, rfl⟩
  rw [← efs39] at hP hD
  have hlen39 : fs39.length = 85 := by rw [efs39, List.length_set]; exact hlen38
  have xf39 : fs39 = [.ref q_1, .int 0, .int 0, .int 0, .int 0, .int 0, .int 0, .int 0, .int (-1), .ref q_2, .ref q_8, .ref q_12, .ref q_16, .ref q_20, .ref q_25, .ref q_28, .ref q_33, .ref q_39, .ref q_43, .ref q_46, .ref q_50, .ref q_54, .ref q_58, .int 0, .ref q_62, .ref q_63, .ref q_64, .ref q_65, .ref q_66, .int 0, .ref q_67, .int 0, .int 0, .int 0, .ref q_68, .ref q_69, .ref q_70, .ref q_71, .ref q_72, .int 0, .int 0, .ref q_73, .long 0, .long 0, .int 0, .ref q_74, .ref q_75, .int 0, .int 0, .ref q_76, .ref q_77, .ref q_78, .ref q_79, .ref q_80, .int 0, .ref q_81, .ref q_82, .ref q_83, .ref q_84, .null, .null, .null, .null, .null, .null, .null, .null, .null, .int 0, .long 0, .long 0, .null, .null, .int 0, .null, .null, .null, .null, .int 0, .int 0, .null, .null, .int 0, .null, .null] := by rw [efs39, xf38]; rfl
  obtain ⟨t38, et38⟩ : ∃ z : va_W, z = (q_84, .inl (y 3, 3520, .inr (.inl (fun _ => 0)))) :: t37 := ⟨_, rfl⟩
  rw [← et38] at hP hD
  refine lv_aload_n hx hb dX12_init_569 rfl (lv_at hl 0 rfl) ?_
  refine lv_sipush (v := 3520) hx hb dX12_init_570 (by decide) ?_
  refine x_newa (N' := 3520) (a0 := (3520, .inl (fun _ => 0))) (t0 := 2) (ty := .int) hx hb (hts (.arrayClass .int) (List.mem_of_getElem? (i := 62) rfl)) rfl rfl hK hP hD hS hA (x_aI 3520) (by decide) (by decide) (by decide) (Nat.le_of_ble_eq_true rfl) (Nat.le_of_ble_eq_true rfl) dX12_init_573 (fun q_85 H hP hD hS => ?_)
  have hP : va_P D vwCl ((h0, .inr (11, fs39)) :: (q_85, .inl (y 2, 3520, .inl (fun _ => 0))) :: t38) H := va_P.swap (a := [(h0, .inr (11, fs39))]) (b := t38) (c := [(q_85, .inl (y 2, 3520, .inl (fun _ => 0)))]) hP
  have hD : va_D A ((h0, .inr (11, fs39)) :: (q_85, .inl (y 2, 3520, .inl (fun _ => 0))) :: t38) := va_D.swap (a := [(h0, .inr (11, fs39))]) (b := t38) (c := [(q_85, .inl (y 2, 3520, .inl (fun _ => 0)))]) hD
  refine W.widen (k := 39) (n := 16951) (Nat.le_of_ble_eq_true rfl) (Nat.le_of_ble_eq_true rfl) ?_
  refine va_putF (D := D) (ci := 11) (v := .ref q_85) (ty := (.array .int)) (C := RX12) (T := TX12) (N := 85) hx hb hts inX12 tyX12 tyX12_ok nmX12 hown hK hP hD hS 0 rfl rfl 59 (by decide) fl130 (fun _ h9 => h9) rfl hmn rfl (by decide +kernel) rfl rfl (by rw [hlen39]; decide) dX12_init_575 (fun H locs hP hD hS => ?_)
  have hP : va_P D vwCl ((h0, .inr (11, (fs39.set 59 (.ref q_85)))) :: (q_85, .inl (y 2, 3520, .inl (fun _ => 0))) :: t38) H := hP
  have hD : va_D A ((h0, .inr (11, (fs39.set 59 (.ref q_85)))) :: (q_85, .inl (y 2, 3520, .inl (fun _ => 0))) :: t38) := hD
  obtain ⟨fs40, efs40⟩ : ∃ z : List Value, z = (fs39.set 59 (.ref q_85)) := ⟨_, rfl⟩
  rw [← efs40] at hP hD
  have hlen40 : fs40.length = 85 := by rw [efs40, List.length_set]; exact hlen39
  have xf40 : fs40 = [.ref q_1, .int 0, .int 0, .int 0, .int 0, .int 0, .int 0, .int 0, .int (-1), .ref q_2, .ref q_8, .ref q_12, .ref q_16, .ref q_20, .ref q_25, .ref q_28, .ref q_33, .ref q_39, .ref q_43, .ref q_46, .ref q_50, .ref q_54, .ref q_58, .int 0, .ref q_62, .ref q_63, .ref q_64, .ref q_65, .ref q_66, .int 0, .ref q_67, .int 0, .int 0, .int 0, .ref q_68, .ref q_69, .ref q_70, .ref q_71, .ref q_72, .int 0, .int 0, .ref q_73, .long 0, .long 0, .int 0, .ref q_74, .ref q_75, .int 0, .int 0, .ref q_76, .ref q_77, .ref q_78, .ref q_79, .ref q_80, .int 0, .ref q_81, .ref q_82, .ref q_83, .ref q_84, .ref q_85, .null, .null, .null, .null, .null, .null, .null, .null, .int 0, .long 0, .long 0, .null, .null, .int 0, .null, .null, .null, .null, .int 0, .int 0, .null, .null, .int 0, .null, .null] := by rw [efs40, xf39]; rfl
  obtain ⟨t39, et39⟩ : ∃ z : va_W, z = (q_85, .inl (y 2, 3520, .inl (fun _ => 0))) :: t38 := ⟨_, rfl⟩
  rw [← et39] at hP hD
  refine lv_aload_n hx hb dX12_init_578 rfl (lv_at hl 0 rfl) ?_
  refine lv_sipush (v := 3520) hx hb dX12_init_579 (by decide) ?_
  refine x_newa (N' := 3520) (a0 := (3520, .inl (fun _ => 0))) (t0 := 2) (ty := .int) hx hb (hts (.arrayClass .int) (List.mem_of_getElem? (i := 62) rfl)) rfl rfl hK hP hD hS hA (x_aI 3520) (by decide) (by decide) (by decide) (Nat.le_of_ble_eq_true rfl) (Nat.le_of_ble_eq_true rfl) dX12_init_582 (fun q_86 H hP hD hS => ?_)
  have hP : va_P D vwCl ((h0, .inr (11, fs40)) :: (q_86, .inl (y 2, 3520, .inl (fun _ => 0))) :: t39) H := va_P.swap (a := [(h0, .inr (11, fs40))]) (b := t39) (c := [(q_86, .inl (y 2, 3520, .inl (fun _ => 0)))]) hP
  have hD : va_D A ((h0, .inr (11, fs40)) :: (q_86, .inl (y 2, 3520, .inl (fun _ => 0))) :: t39) := va_D.swap (a := [(h0, .inr (11, fs40))]) (b := t39) (c := [(q_86, .inl (y 2, 3520, .inl (fun _ => 0)))]) hD
  refine W.widen (k := 40) (n := 20471) (Nat.le_of_ble_eq_true rfl) (Nat.le_of_ble_eq_true rfl) ?_
  refine va_putF (D := D) (ci := 11) (v := .ref q_86) (ty := (.array .int)) (C := RX12) (T := TX12) (N := 85) hx hb hts inX12 tyX12 tyX12_ok nmX12 hown hK hP hD hS 0 rfl rfl 60 (by decide) fl133 (fun _ h9 => h9) rfl hmn rfl (by decide +kernel) rfl rfl (by rw [hlen40]; decide) dX12_init_584 (fun H locs hP hD hS => ?_)
  have hP : va_P D vwCl ((h0, .inr (11, (fs40.set 60 (.ref q_86)))) :: (q_86, .inl (y 2, 3520, .inl (fun _ => 0))) :: t39) H := hP
  have hD : va_D A ((h0, .inr (11, (fs40.set 60 (.ref q_86)))) :: (q_86, .inl (y 2, 3520, .inl (fun _ => 0))) :: t39) := hD
  obtain ⟨fs41, efs41⟩ : ∃ z : List Value, z = (fs40.set 60 (.ref q_86)) := ⟨_, rfl⟩
  rw [← efs41] at hP hD
  have hlen41 : fs41.length = 85 := by rw [efs41, List.length_set]; exact hlen40
  have xf41 : fs41 = [.ref q_1, .int 0, .int 0, .int 0, .int 0, .int 0, .int 0, .int 0, .int (-1), .ref q_2, .ref q_8, .ref q_12, .ref q_16, .ref q_20, .ref q_25, .ref q_28, .ref q_33, .ref q_39, .ref q_43, .ref q_46, .ref q_50, .ref q_54, .ref q_58, .int 0, .ref q_62, .ref q_63, .ref q_64, .ref q_65, .ref q_66, .int 0, .ref q_67, .int 0, .int 0, .int 0, .ref q_68, .ref q_69, .ref q_70, .ref q_71, .ref q_72, .int 0, .int 0, .ref q_73, .long 0, .long 0, .int 0, .ref q_74, .ref q_75, .int 0, .int 0, .ref q_76, .ref q_77, .ref q_78, .ref q_79, .ref q_80, .int 0, .ref q_81, .ref q_82, .ref q_83, .ref q_84, .ref q_85, .ref q_86, .null, .null, .null, .null, .null, .null, .null, .int 0, .long 0, .long 0, .null, .null, .int 0, .null, .null, .null, .null, .int 0, .int 0, .null, .null, .int 0, .null, .null] := by rw [efs41, xf40]; rfl
  obtain ⟨t40, et40⟩ : ∃ z : va_W, z = (q_86, .inl (y 2, 3520, .inl (fun _ => 0))) :: t39 := ⟨_, rfl⟩
  rw [← et40] at hP hD
  refine lv_aload_n hx hb dX12_init_587 rfl (lv_at hl 0 rfl) ?_
  refine lv_sipush (v := 3520) hx hb dX12_init_588 (by decide) ?_
  refine x_newa (N' := 3520) (a0 := (3520, .inl (fun _ => 0))) (t0 := 2) (ty := .int) hx hb (hts (.arrayClass .int) (List.mem_of_getElem? (i := 62) rfl)) rfl rfl hK hP hD hS hA (x_aI 3520) (by decide) (by decide) (by decide) (Nat.le_of_ble_eq_true rfl) (Nat.le_of_ble_eq_true rfl) dX12_init_591 (fun q_87 H hP hD hS => ?_)
  have hP : va_P D vwCl ((h0, .inr (11, fs41)) :: (q_87, .inl (y 2, 3520, .inl (fun _ => 0))) :: t40) H := va_P.swap (a := [(h0, .inr (11, fs41))]) (b := t40) (c := [(q_87, .inl (y 2, 3520, .inl (fun _ => 0)))]) hP
  have hD : va_D A ((h0, .inr (11, fs41)) :: (q_87, .inl (y 2, 3520, .inl (fun _ => 0))) :: t40) := va_D.swap (a := [(h0, .inr (11, fs41))]) (b := t40) (c := [(q_87, .inl (y 2, 3520, .inl (fun _ => 0)))]) hD
  refine W.widen (k := 41) (n := 23991) (Nat.le_of_ble_eq_true rfl) (Nat.le_of_ble_eq_true rfl) ?_
  refine va_putF (D := D) (ci := 11) (v := .ref q_87) (ty := (.array .int)) (C := RX12) (T := TX12) (N := 85) hx hb hts inX12 tyX12 tyX12_ok nmX12 hown hK hP hD hS 0 rfl rfl 61 (by decide) fl136 (fun _ h9 => h9) rfl hmn rfl (by decide +kernel) rfl rfl (by rw [hlen41]; decide) dX12_init_593 (fun H locs hP hD hS => ?_)
  have hP : va_P D vwCl ((h0, .inr (11, (fs41.set 61 (.ref q_87)))) :: (q_87, .inl (y 2, 3520, .inl (fun _ => 0))) :: t40) H := hP
  have hD : va_D A ((h0, .inr (11, (fs41.set 61 (.ref q_87)))) :: (q_87, .inl (y 2, 3520, .inl (fun _ => 0))) :: t40) := hD
  obtain ⟨fs42, efs42⟩ : ∃ z : List Value, z = (fs41.set 61 (.ref q_87)) := ⟨_, rfl⟩
  rw [← efs42] at hP hD
  have hlen42 : fs42.length = 85 := by rw [efs42, List.length_set]; exact hlen41
  have xf42 : fs42 = [.ref q_1, .int 0, .int 0, .int 0, .int 0, .int 0, .int 0, .int 0, .int (-1), .ref q_2, .ref q_8, .ref q_12, .ref q_16, .ref q_20, .ref q_25, .ref q_28, .ref q_33, .ref q_39, .ref q_43, .ref q_46, .ref q_50, .ref q_54, .ref q_58, .int 0, .ref q_62, .ref q_63, .ref q_64, .ref q_65, .ref q_66, .int 0, .ref q_67, .int 0, .int 0, .int 0, .ref q_68, .ref q_69, .ref q_70, .ref q_71, .ref q_72, .int 0, .int 0, .ref q_73, .long 0, .long 0, .int 0, .ref q_74, .ref q_75, .int 0, .int 0, .ref q_76, .ref q_77, .ref q_78, .ref q_79, .ref q_80, .int 0, .ref q_81, .ref q_82, .ref q_83, .ref q_84, .ref q_85, .ref q_86, .ref q_87, .null, .null, .null, .null, .null, .null, .int 0, .long 0, .long 0, .null, .null, .int 0, .null, .null, .null, .null, .int 0, .int 0, .null, .null, .int 0, .null, .null] := by rw [efs42, xf41]; rfl
  obtain ⟨t41, et41⟩ : ∃ z : va_W, z = (q_87, .inl (y 2, 3520, .inl (fun _ => 0))) :: t40 := ⟨_, rfl⟩
  rw [← et41] at hP hD
  refine lv_aload_n hx hb dX12_init_596 rfl (lv_at hl 0 rfl) ?_
  refine lv_iconst (v := 2) hx hb dX12_init_597 (by decide) ?_
  refine x_newa (N' := 2) (a0 := (2, .inl (fun _ => 0))) (t0 := 2) (ty := .int) hx hb (hts (.arrayClass .int) (List.mem_of_getElem? (i := 62) rfl)) rfl rfl hK hP hD hS hA (x_aI 2) (by decide) (by decide) (by decide) (Nat.le_of_ble_eq_true rfl) (Nat.le_of_ble_eq_true rfl) dX12_init_598 (fun q_88 H hP hD hS => ?_)
  have hP : va_P D vwCl ((h0, .inr (11, fs42)) :: (q_88, .inl (y 2, 2, .inl (fun _ => 0))) :: t41) H := va_P.swap (a := [(h0, .inr (11, fs42))]) (b := t41) (c := [(q_88, .inl (y 2, 2, .inl (fun _ => 0)))]) hP
  have hD : va_D A ((h0, .inr (11, fs42)) :: (q_88, .inl (y 2, 2, .inl (fun _ => 0))) :: t41) := va_D.swap (a := [(h0, .inr (11, fs42))]) (b := t41) (c := [(q_88, .inl (y 2, 2, .inl (fun _ => 0)))]) hD
  refine W.widen (k := 42) (n := 23993) (Nat.le_of_ble_eq_true rfl) (Nat.le_of_ble_eq_true rfl) ?_
  refine va_putF (D := D) (ci := 11) (v := .ref q_88) (ty := (.array .int)) (C := RX12) (T := TX12) (N := 85) hx hb hts inX12 tyX12 tyX12_ok nmX12 hown hK hP hD hS 0 rfl rfl 62 (by decide) fl139 (fun _ h9 => h9) rfl hmn rfl (by decide +kernel) rfl rfl (by rw [hlen42]; decide) dX12_init_600 (fun H locs hP hD hS => ?_)
  have hP : va_P D vwCl ((h0, .inr (11, (fs42.set 62 (.ref q_88)))) :: (q_88, .inl (y 2, 2, .inl (fun _ => 0))) :: t41) H := hP
  have hD : va_D A ((h0, .inr (11, (fs42.set 62 (.ref q_88)))) :: (q_88, .inl (y 2, 2, .inl (fun _ => 0))) :: t41) := hD
  obtain ⟨fs43, efs43⟩ : ∃ z : List Value, z = (fs42.set 62 (.ref q_88)) := ⟨_, rfl⟩
  rw [← efs43] at hP hD
  have hlen43 : fs43.length = 85 := by rw [efs43, List.length_set]; exact hlen42
  have xf43 : fs43 = [.ref q_1, .int 0, .int 0, .int 0, .int 0, .int 0, .int 0, .int 0, .int (-1), .ref q_2, .ref q_8, .ref q_12, .ref q_16, .ref q_20, .ref q_25, .ref q_28, .ref q_33, .ref q_39, .ref q_43, .ref q_46, .ref q_50, .ref q_54, .ref q_58, .int 0, .ref q_62, .ref q_63, .ref q_64, .ref q_65, .ref q_66, .int 0, .ref q_67, .int 0, .int 0, .int 0, .ref q_68, .ref q_69, .ref q_70, .ref q_71, .ref q_72, .int 0, .int 0, .ref q_73, .long 0, .long 0, .int 0, .ref q_74, .ref q_75, .int 0, .int 0, .ref q_76, .ref q_77, .ref q_78, .ref q_79, .ref q_80, .int 0, .ref q_81, .ref q_82, .ref q_83, .ref q_84, .ref q_85, .ref q_86, .ref q_87, .ref q_88, .null, .null, .null, .null, .null, .int 0, .long 0, .long 0, .null, .null, .int 0, .null, .null, .null, .null, .int 0, .int 0, .null, .null, .int 0, .null, .null] := by rw [efs43, xf42]; rfl
  obtain ⟨t42, et42⟩ : ∃ z : va_W, z = (q_88, .inl (y 2, 2, .inl (fun _ => 0))) :: t41 := ⟨_, rfl⟩
  rw [← et42] at hP hD
  refine lv_aload_n hx hb dX12_init_603 rfl (lv_at hl 0 rfl) ?_
  refine lv_iconst (v := 2) hx hb dX12_init_604 (by decide) ?_
  refine x_newa (N' := 2) (a0 := (2, .inl (fun _ => 0))) (t0 := 2) (ty := .int) hx hb (hts (.arrayClass .int) (List.mem_of_getElem? (i := 62) rfl)) rfl rfl hK hP hD hS hA (x_aI 2) (by decide) (by decide) (by decide) (Nat.le_of_ble_eq_true rfl) (Nat.le_of_ble_eq_true rfl) dX12_init_605 (fun q_89 H hP hD hS => ?_)
  have hP : va_P D vwCl ((h0, .inr (11, fs43)) :: (q_89, .inl (y 2, 2, .inl (fun _ => 0))) :: t42) H := va_P.swap (a := [(h0, .inr (11, fs43))]) (b := t42) (c := [(q_89, .inl (y 2, 2, .inl (fun _ => 0)))]) hP
  have hD : va_D A ((h0, .inr (11, fs43)) :: (q_89, .inl (y 2, 2, .inl (fun _ => 0))) :: t42) := va_D.swap (a := [(h0, .inr (11, fs43))]) (b := t42) (c := [(q_89, .inl (y 2, 2, .inl (fun _ => 0)))]) hD
  refine W.widen (k := 43) (n := 23995) (Nat.le_of_ble_eq_true rfl) (Nat.le_of_ble_eq_true rfl) ?_
  refine va_putF (D := D) (ci := 11) (v := .ref q_89) (ty := (.array .int)) (C := RX12) (T := TX12) (N := 85) hx hb hts inX12 tyX12 tyX12_ok nmX12 hown hK hP hD hS 0 rfl rfl 63 (by decide) fl142 (fun _ h9 => h9) rfl hmn rfl (by decide +kernel) rfl rfl (by rw [hlen43]; decide) dX12_init_607 (fun H locs hP hD hS => ?_)
  have hP : va_P D vwCl ((h0, .inr (11, (fs43.set 63 (.ref q_89)))) :: (q_89, .inl (y 2, 2, .inl (fun _ => 0))) :: t42) H := hP
  have hD : va_D A ((h0, .inr (11, (fs43.set 63 (.ref q_89)))) :: (q_89, .inl (y 2, 2, .inl (fun _ => 0))) :: t42) := hD
  obtain ⟨fs44, efs44⟩ : ∃ z : List Value, z = (fs43.set 63 (.ref q_89)) := ⟨_, rfl⟩
  rw [← efs44] at hP hD
  have hlen44 : fs44.length = 85 := by rw [efs44, List.length_set]; exact hlen43
  have xf44 : fs44 = [.ref q_1, .int 0, .int 0, .int 0, .int 0, .int 0, .int 0, .int 0, .int (-1), .ref q_2, .ref q_8, .ref q_12, .ref q_16, .ref q_20, .ref q_25, .ref q_28, .ref q_33, .ref q_39, .ref q_43, .ref q_46, .ref q_50, .ref q_54, .ref q_58, .int 0, .ref q_62, .ref q_63, .ref q_64, .ref q_65, .ref q_66, .int 0, .ref q_67, .int 0, .int 0, .int 0, .ref q_68, .ref q_69, .ref q_70, .ref q_71, .ref q_72, .int 0, .int 0, .ref q_73, .long 0, .long 0, .int 0, .ref q_74, .ref q_75, .int 0, .int 0, .ref q_76, .ref q_77, .ref q_78, .ref q_79, .ref q_80, .int 0, .ref q_81, .ref q_82, .ref q_83, .ref q_84, .ref q_85, .ref q_86, .ref q_87, .ref q_88, .ref q_89, .null, .null, .null, .null, .int 0, .long 0, .long 0, .null, .null, .int 0, .null, .null, .null, .null, .int 0, .int 0, .null, .null, .int 0, .null, .null] := by rw [efs44, xf43]; rfl
  obtain ⟨t43, et43⟩ : ∃ z : va_W, z = (q_89, .inl (y 2, 2, .inl (fun _ => 0))) :: t42 := ⟨_, rfl⟩
  rw [← et43] at hP hD
  refine lv_aload_n hx hb dX12_init_610 rfl (lv_at hl 0 rfl) ?_
  refine lv_iconst (v := 2) hx hb dX12_init_611 (by decide) ?_
  refine x_newa (N' := 2) (a0 := (2, .inl (fun _ => 0))) (t0 := 2) (ty := .int) hx hb (hts (.arrayClass .int) (List.mem_of_getElem? (i := 62) rfl)) rfl rfl hK hP hD hS hA (x_aI 2) (by decide) (by decide) (by decide) (Nat.le_of_ble_eq_true rfl) (Nat.le_of_ble_eq_true rfl) dX12_init_612 (fun q_90 H hP hD hS => ?_)
  have hP : va_P D vwCl ((h0, .inr (11, fs44)) :: (q_90, .inl (y 2, 2, .inl (fun _ => 0))) :: t43) H := va_P.swap (a := [(h0, .inr (11, fs44))]) (b := t43) (c := [(q_90, .inl (y 2, 2, .inl (fun _ => 0)))]) hP
  have hD : va_D A ((h0, .inr (11, fs44)) :: (q_90, .inl (y 2, 2, .inl (fun _ => 0))) :: t43) := va_D.swap (a := [(h0, .inr (11, fs44))]) (b := t43) (c := [(q_90, .inl (y 2, 2, .inl (fun _ => 0)))]) hD
  refine W.widen (k := 44) (n := 23997) (Nat.le_of_ble_eq_true rfl) (Nat.le_of_ble_eq_true rfl) ?_
  refine va_putF (D := D) (ci := 11) (v := .ref q_90) (ty := (.array .int)) (C := RX12) (T := TX12) (N := 85) hx hb hts inX12 tyX12 tyX12_ok nmX12 hown hK hP hD hS 0 rfl rfl 64 (by decide) fl145 (fun _ h9 => h9) rfl hmn rfl (by decide +kernel) rfl rfl (by rw [hlen44]; decide) dX12_init_614 (fun H locs hP hD hS => ?_)
  have hP : va_P D vwCl ((h0, .inr (11, (fs44.set 64 (.ref q_90)))) :: (q_90, .inl (y 2, 2, .inl (fun _ => 0))) :: t43) H := hP
  have hD : va_D A ((h0, .inr (11, (fs44.set 64 (.ref q_90)))) :: (q_90, .inl (y 2, 2, .inl (fun _ => 0))) :: t43) := hD
  obtain ⟨fs45, efs45⟩ : ∃ z : List Value, z = (fs44.set 64 (.ref q_90)) := ⟨_, rfl⟩
  rw [← efs45] at hP hD
  have hlen45 : fs45.length = 85 := by rw [efs45, List.length_set]; exact hlen44
  have xf45 : fs45 = [.ref q_1, .int 0, .int 0, .int 0, .int 0, .int 0, .int 0, .int 0, .int (-1), .ref q_2, .ref q_8, .ref q_12, .ref q_16, .ref q_20, .ref q_25, .ref q_28, .ref q_33, .ref q_39, .ref q_43, .ref q_46, .ref q_50, .ref q_54, .ref q_58, .int 0, .ref q_62, .ref q_63, .ref q_64, .ref q_65, .ref q_66, .int 0, .ref q_67, .int 0, .int 0, .int 0, .ref q_68, .ref q_69, .ref q_70, .ref q_71, .ref q_72, .int 0, .int 0, .ref q_73, .long 0, .long 0, .int 0, .ref q_74, .ref q_75, .int 0, .int 0, .ref q_76, .ref q_77, .ref q_78, .ref q_79, .ref q_80, .int 0, .ref q_81, .ref q_82, .ref q_83, .ref q_84, .ref q_85, .ref q_86, .ref q_87, .ref q_88, .ref q_89, .ref q_90, .null, .null, .null, .int 0, .long 0, .long 0, .null, .null, .int 0, .null, .null, .null, .null, .int 0, .int 0, .null, .null, .int 0, .null, .null] := by rw [efs45, xf44]; rfl
  obtain ⟨t44, et44⟩ : ∃ z : va_W, z = (q_90, .inl (y 2, 2, .inl (fun _ => 0))) :: t43 := ⟨_, rfl⟩
  rw [← et44] at hP hD
  refine lv_aload_n hx hb dX12_init_617 rfl (lv_at hl 0 rfl) ?_
  refine lv_bipush (v := 24) hx hb dX12_init_618 (by decide) ?_
  refine x_newa (N' := 24) (a0 := (24, .inl (fun _ => 0))) (t0 := 2) (ty := .int) hx hb (hts (.arrayClass .int) (List.mem_of_getElem? (i := 62) rfl)) rfl rfl hK hP hD hS hA (x_aI 24) (by decide) (by decide) (by decide) (Nat.le_of_ble_eq_true rfl) (Nat.le_of_ble_eq_true rfl) dX12_init_620 (fun q_91 H hP hD hS => ?_)
  have hP : va_P D vwCl ((h0, .inr (11, fs45)) :: (q_91, .inl (y 2, 24, .inl (fun _ => 0))) :: t44) H := va_P.swap (a := [(h0, .inr (11, fs45))]) (b := t44) (c := [(q_91, .inl (y 2, 24, .inl (fun _ => 0)))]) hP
  have hD : va_D A ((h0, .inr (11, fs45)) :: (q_91, .inl (y 2, 24, .inl (fun _ => 0))) :: t44) := va_D.swap (a := [(h0, .inr (11, fs45))]) (b := t44) (c := [(q_91, .inl (y 2, 24, .inl (fun _ => 0)))]) hD
  refine W.widen (k := 45) (n := 24021) (Nat.le_of_ble_eq_true rfl) (Nat.le_of_ble_eq_true rfl) ?_
  refine va_putF (D := D) (ci := 11) (v := .ref q_91) (ty := (.array .int)) (C := RX12) (T := TX12) (N := 85) hx hb hts inX12 tyX12 tyX12_ok nmX12 hown hK hP hD hS 0 rfl rfl 65 (by decide) fl148 (fun _ h9 => h9) rfl hmn rfl (by decide +kernel) rfl rfl (by rw [hlen45]; decide) dX12_init_622 (fun H locs hP hD hS => ?_)
  have hP : va_P D vwCl ((h0, .inr (11, (fs45.set 65 (.ref q_91)))) :: (q_91, .inl (y 2, 24, .inl (fun _ => 0))) :: t44) H := hP
  have hD : va_D A ((h0, .inr (11, (fs45.set 65 (.ref q_91)))) :: (q_91, .inl (y 2, 24, .inl (fun _ => 0))) :: t44) := hD
  obtain ⟨fs46, efs46⟩ : ∃ z : List Value, z = (fs45.set 65 (.ref q_91)) := ⟨_, rfl⟩
  rw [← efs46] at hP hD
  have hlen46 : fs46.length = 85 := by rw [efs46, List.length_set]; exact hlen45
  have xf46 : fs46 = [.ref q_1, .int 0, .int 0, .int 0, .int 0, .int 0, .int 0, .int 0, .int (-1), .ref q_2, .ref q_8, .ref q_12, .ref q_16, .ref q_20, .ref q_25, .ref q_28, .ref q_33, .ref q_39, .ref q_43, .ref q_46, .ref q_50, .ref q_54, .ref q_58, .int 0, .ref q_62, .ref q_63, .ref q_64, .ref q_65, .ref q_66, .int 0, .ref q_67, .int 0, .int 0, .int 0, .ref q_68, .ref q_69, .ref q_70, .ref q_71, .ref q_72, .int 0, .int 0, .ref q_73, .long 0, .long 0, .int 0, .ref q_74, .ref q_75, .int 0, .int 0, .ref q_76, .ref q_77, .ref q_78, .ref q_79, .ref q_80, .int 0, .ref q_81, .ref q_82, .ref q_83, .ref q_84, .ref q_85, .ref q_86, .ref q_87, .ref q_88, .ref q_89, .ref q_90, .ref q_91, .null, .null, .int 0, .long 0, .long 0, .null, .null, .int 0, .null, .null, .null, .null, .int 0, .int 0, .null, .null, .int 0, .null, .null] := by rw [efs46, xf45]; rfl
  obtain ⟨t45, et45⟩ : ∃ z : va_W, z = (q_91, .inl (y 2, 24, .inl (fun _ => 0))) :: t44 := ⟨_, rfl⟩
  rw [← et45] at hP hD
  refine lv_aload_n hx hb dX12_init_625 rfl (lv_at hl 0 rfl) ?_
  refine lv_iconst (v := 2) hx hb dX12_init_626 (by decide) ?_
  refine x_newa (N' := 2) (a0 := (2, .inl (fun _ => 0))) (t0 := 2) (ty := .int) hx hb (hts (.arrayClass .int) (List.mem_of_getElem? (i := 62) rfl)) rfl rfl hK hP hD hS hA (x_aI 2) (by decide) (by decide) (by decide) (Nat.le_of_ble_eq_true rfl) (Nat.le_of_ble_eq_true rfl) dX12_init_627 (fun q_92 H hP hD hS => ?_)
  have hP : va_P D vwCl ((h0, .inr (11, fs46)) :: (q_92, .inl (y 2, 2, .inl (fun _ => 0))) :: t45) H := va_P.swap (a := [(h0, .inr (11, fs46))]) (b := t45) (c := [(q_92, .inl (y 2, 2, .inl (fun _ => 0)))]) hP
  have hD : va_D A ((h0, .inr (11, fs46)) :: (q_92, .inl (y 2, 2, .inl (fun _ => 0))) :: t45) := va_D.swap (a := [(h0, .inr (11, fs46))]) (b := t45) (c := [(q_92, .inl (y 2, 2, .inl (fun _ => 0)))]) hD
  refine W.widen (k := 46) (n := 24023) (Nat.le_of_ble_eq_true rfl) (Nat.le_of_ble_eq_true rfl) ?_
  refine va_putF (D := D) (ci := 11) (v := .ref q_92) (ty := (.array .int)) (C := RX12) (T := TX12) (N := 85) hx hb hts inX12 tyX12 tyX12_ok nmX12 hown hK hP hD hS 0 rfl rfl 66 (by decide) fl151 (fun _ h9 => h9) rfl hmn rfl (by decide +kernel) rfl rfl (by rw [hlen46]; decide) dX12_init_629 (fun H locs hP hD hS => ?_)
  have hP : va_P D vwCl ((h0, .inr (11, (fs46.set 66 (.ref q_92)))) :: (q_92, .inl (y 2, 2, .inl (fun _ => 0))) :: t45) H := hP
  have hD : va_D A ((h0, .inr (11, (fs46.set 66 (.ref q_92)))) :: (q_92, .inl (y 2, 2, .inl (fun _ => 0))) :: t45) := hD
  obtain ⟨fs47, efs47⟩ : ∃ z : List Value, z = (fs46.set 66 (.ref q_92)) := ⟨_, rfl⟩
  rw [← efs47] at hP hD
  have hlen47 : fs47.length = 85 := by rw [efs47, List.length_set]; exact hlen46
  have xf47 : fs47 = [.ref q_1, .int 0, .int 0, .int 0, .int 0, .int 0, .int 0, .int 0, .int (-1), .ref q_2, .ref q_8, .ref q_12, .ref q_16, .ref q_20, .ref q_25, .ref q_28, .ref q_33, .ref q_39, .ref q_43, .ref q_46, .ref q_50, .ref q_54, .ref q_58, .int 0, .ref q_62, .ref q_63, .ref q_64, .ref q_65, .ref q_66, .int 0, .ref q_67, .int 0, .int 0, .int 0, .ref q_68, .ref q_69, .ref q_70, .ref q_71, .ref q_72, .int 0, .int 0, .ref q_73, .long 0, .long 0, .int 0, .ref q_74, .ref q_75, .int 0, .int 0, .ref q_76, .ref q_77, .ref q_78, .ref q_79, .ref q_80, .int 0, .ref q_81, .ref q_82, .ref q_83, .ref q_84, .ref q_85, .ref q_86, .ref q_87, .ref q_88, .ref q_89, .ref q_90, .ref q_91, .ref q_92, .null, .int 0, .long 0, .long 0, .null, .null, .int 0, .null, .null, .null, .null, .int 0, .int 0, .null, .null, .int 0, .null, .null] := by rw [efs47, xf46]; rfl
  obtain ⟨t46, et46⟩ : ∃ z : va_W, z = (q_92, .inl (y 2, 2, .inl (fun _ => 0))) :: t45 := ⟨_, rfl⟩
  rw [← et46] at hP hD
  refine lv_aload_n hx hb dX12_init_632 rfl (lv_at hl 0 rfl) ?_
  refine lv_iconst (v := 2) hx hb dX12_init_633 (by decide) ?_
  refine x_newa (N' := 2) (a0 := (2, .inl (fun _ => 0))) (t0 := 2) (ty := .int) hx hb (hts (.arrayClass .int) (List.mem_of_getElem? (i := 62) rfl)) rfl rfl hK hP hD hS hA (x_aI 2) (by decide) (by decide) (by decide) (Nat.le_of_ble_eq_true rfl) (Nat.le_of_ble_eq_true rfl) dX12_init_634 (fun q_93 H hP hD hS => ?_)
  have hP : va_P D vwCl ((h0, .inr (11, fs47)) :: (q_93, .inl (y 2, 2, .inl (fun _ => 0))) :: t46) H := va_P.swap (a := [(h0, .inr (11, fs47))]) (b := t46) (c := [(q_93, .inl (y 2, 2, .inl (fun _ => 0)))]) hP
  have hD : va_D A ((h0, .inr (11, fs47)) :: (q_93, .inl (y 2, 2, .inl (fun _ => 0))) :: t46) := va_D.swap (a := [(h0, .inr (11, fs47))]) (b := t46) (c := [(q_93, .inl (y 2, 2, .inl (fun _ => 0)))]) hD
  refine W.widen (k := 47) (n := 24025) (Nat.le_of_ble_eq_true rfl) (Nat.le_of_ble_eq_true rfl) ?_
  refine va_putF (D := D) (ci := 11) (v := .ref q_93) (ty := (.array .int)) (C := RX12) (T := TX12) (N := 85) hx hb hts inX12 tyX12 tyX12_ok nmX12 hown hK hP hD hS 0 rfl rfl 67 (by decide) fl154 (fun _ h9 => h9) rfl hmn rfl (by decide +kernel) rfl rfl (by rw [hlen47]; decide) dX12_init_636 (fun H locs hP hD hS => ?_)
  have hP : va_P D vwCl ((h0, .inr (11, (fs47.set 67 (.ref q_93)))) :: (q_93, .inl (y 2, 2, .inl (fun _ => 0))) :: t46) H := hP
  have hD : va_D A ((h0, .inr (11, (fs47.set 67 (.ref q_93)))) :: (q_93, .inl (y 2, 2, .inl (fun _ => 0))) :: t46) := hD
  obtain ⟨fs48, efs48⟩ : ∃ z : List Value, z = (fs47.set 67 (.ref q_93)) := ⟨_, rfl⟩
  rw [← efs48] at hP hD
  have hlen48 : fs48.length = 85 := by rw [efs48, List.length_set]; exact hlen47
  have xf48 : fs48 = [.ref q_1, .int 0, .int 0, .int 0, .int 0, .int 0, .int 0, .int 0, .int (-1), .ref q_2, .ref q_8, .ref q_12, .ref q_16, .ref q_20, .ref q_25, .ref q_28, .ref q_33, .ref q_39, .ref q_43, .ref q_46, .ref q_50, .ref q_54, .ref q_58, .int 0, .ref q_62, .ref q_63, .ref q_64, .ref q_65, .ref q_66, .int 0, .ref q_67, .int 0, .int 0, .int 0, .ref q_68, .ref q_69, .ref q_70, .ref q_71, .ref q_72, .int 0, .int 0, .ref q_73, .long 0, .long 0, .int 0, .ref q_74, .ref q_75, .int 0, .int 0, .ref q_76, .ref q_77, .ref q_78, .ref q_79, .ref q_80, .int 0, .ref q_81, .ref q_82, .ref q_83, .ref q_84, .ref q_85, .ref q_86, .ref q_87, .ref q_88, .ref q_89, .ref q_90, .ref q_91, .ref q_92, .ref q_93, .int 0, .long 0, .long 0, .null, .null, .int 0, .null, .null, .null, .null, .int 0, .int 0, .null, .null, .int 0, .null, .null] := by rw [efs48, xf47]; rfl
  obtain ⟨t47, et47⟩ : ∃ z : va_W, z = (q_93, .inl (y 2, 2, .inl (fun _ => 0))) :: t46 := ⟨_, rfl⟩
  rw [← et47] at hP hD
  refine lv_aload_n hx hb dX12_init_639 rfl (lv_at hl 0 rfl) ?_
  refine lv_bipush (v := 84) hx hb dX12_init_640 (by decide) ?_
  refine x_newa (N' := 84) (a0 := (84, .inl (fun _ => 0))) (t0 := 2) (ty := .int) hx hb (hts (.arrayClass .int) (List.mem_of_getElem? (i := 62) rfl)) rfl rfl hK hP hD hS hA (x_aI 84) (by decide) (by decide) (by decide) (Nat.le_of_ble_eq_true rfl) (Nat.le_of_ble_eq_true rfl) dX12_init_642 (fun q_94 H hP hD hS => ?_)
  have hP : va_P D vwCl ((h0, .inr (11, fs48)) :: (q_94, .inl (y 2, 84, .inl (fun _ => 0))) :: t47) H := va_P.swap (a := [(h0, .inr (11, fs48))]) (b := t47) (c := [(q_94, .inl (y 2, 84, .inl (fun _ => 0)))]) hP
  have hD : va_D A ((h0, .inr (11, fs48)) :: (q_94, .inl (y 2, 84, .inl (fun _ => 0))) :: t47) := va_D.swap (a := [(h0, .inr (11, fs48))]) (b := t47) (c := [(q_94, .inl (y 2, 84, .inl (fun _ => 0)))]) hD
  refine W.widen (k := 48) (n := 24109) (Nat.le_of_ble_eq_true rfl) (Nat.le_of_ble_eq_true rfl) ?_
  refine va_putF (D := D) (ci := 11) (v := .ref q_94) (ty := (.array .int)) (C := RX12) (T := TX12) (N := 85) hx hb hts inX12 tyX12 tyX12_ok nmX12 hown hK hP hD hS 0 rfl rfl 71 (by decide) fl157 (fun _ h9 => h9) rfl hmn rfl (by decide +kernel) rfl rfl (by rw [hlen48]; decide) dX12_init_644 (fun H locs hP hD hS => ?_)
  have hP : va_P D vwCl ((h0, .inr (11, (fs48.set 71 (.ref q_94)))) :: (q_94, .inl (y 2, 84, .inl (fun _ => 0))) :: t47) H := hP
  have hD : va_D A ((h0, .inr (11, (fs48.set 71 (.ref q_94)))) :: (q_94, .inl (y 2, 84, .inl (fun _ => 0))) :: t47) := hD
  obtain ⟨fs49, efs49⟩ : ∃ z : List Value, z = (fs48.set 71 (.ref q_94)) := ⟨_, rfl⟩
  rw [← efs49] at hP hD
  have hlen49 : fs49.length = 85 := by rw [efs49, List.length_set]; exact hlen48
  have xf49 : fs49 = [.ref q_1, .int 0, .int 0, .int 0, .int 0, .int 0, .int 0, .int 0, .int (-1), .ref q_2, .ref q_8, .ref q_12, .ref q_16, .ref q_20, .ref q_25, .ref q_28, .ref q_33, .ref q_39, .ref q_43, .ref q_46, .ref q_50, .ref q_54, .ref q_58, .int 0, .ref q_62, .ref q_63, .ref q_64, .ref q_65, .ref q_66, .int 0, .ref q_67, .int 0, .int 0, .int 0, .ref q_68, .ref q_69, .ref q_70, .ref q_71, .ref q_72, .int 0, .int 0, .ref q_73, .long 0, .long 0, .int 0, .ref q_74, .ref q_75, .int 0, .int 0, .ref q_76, .ref q_77, .ref q_78, .ref q_79, .ref q_80, .int 0, .ref q_81, .ref q_82, .ref q_83, .ref q_84, .ref q_85, .ref q_86, .ref q_87, .ref q_88, .ref q_89, .ref q_90, .ref q_91, .ref q_92, .ref q_93, .int 0, .long 0, .long 0, .ref q_94, .null, .int 0, .null, .null, .null, .null, .int 0, .int 0, .null, .null, .int 0, .null, .null] := by rw [efs49, xf48]; rfl
  obtain ⟨t48, et48⟩ : ∃ z : va_W, z = (q_94, .inl (y 2, 84, .inl (fun _ => 0))) :: t47 := ⟨_, rfl⟩
  rw [← et48] at hP hD
  refine lv_aload_n hx hb dX12_init_647 rfl (lv_at hl 0 rfl) ?_
  refine lv_sipush (v := 800) hx hb dX12_init_648 (by decide) ?_
  refine x_newa (N' := 800) (a0 := (800, .inl (fun _ => 0))) (t0 := 2) (ty := .int) hx hb (hts (.arrayClass .int) (List.mem_of_getElem? (i := 62) rfl)) rfl rfl hK hP hD hS hA (x_aI 800) (by decide) (by decide) (by decide) (Nat.le_of_ble_eq_true rfl) (Nat.le_of_ble_eq_true rfl) dX12_init_651 (fun q_95 H hP hD hS => ?_)
  have hP : va_P D vwCl ((h0, .inr (11, fs49)) :: (q_95, .inl (y 2, 800, .inl (fun _ => 0))) :: t48) H := va_P.swap (a := [(h0, .inr (11, fs49))]) (b := t48) (c := [(q_95, .inl (y 2, 800, .inl (fun _ => 0)))]) hP
  have hD : va_D A ((h0, .inr (11, fs49)) :: (q_95, .inl (y 2, 800, .inl (fun _ => 0))) :: t48) := va_D.swap (a := [(h0, .inr (11, fs49))]) (b := t48) (c := [(q_95, .inl (y 2, 800, .inl (fun _ => 0)))]) hD
  refine W.widen (k := 49) (n := 24909) (Nat.le_of_ble_eq_true rfl) (Nat.le_of_ble_eq_true rfl) ?_
  refine va_putF (D := D) (ci := 11) (v := .ref q_95) (ty := (.array .int)) (C := RX12) (T := TX12) (N := 85) hx hb hts inX12 tyX12 tyX12_ok nmX12 hown hK hP hD hS 0 rfl rfl 72 (by decide) fl160 (fun _ h9 => h9) rfl hmn rfl (by decide +kernel) rfl rfl (by rw [hlen49]; decide) dX12_init_653 (fun H locs hP hD hS => ?_)
  have hP : va_P D vwCl ((h0, .inr (11, (fs49.set 72 (.ref q_95)))) :: (q_95, .inl (y 2, 800, .inl (fun _ => 0))) :: t48) H := hP
  have hD : va_D A ((h0, .inr (11, (fs49.set 72 (.ref q_95)))) :: (q_95, .inl (y 2, 800, .inl (fun _ => 0))) :: t48) := hD
  obtain ⟨fs50, efs50⟩ : ∃ z : List Value, z = (fs49.set 72 (.ref q_95)) := ⟨_, rfl⟩
  rw [← efs50] at hP hD
  have hlen50 : fs50.length = 85 := by rw [efs50, List.length_set]; exact hlen49
  have xf50 : fs50 = [.ref q_1, .int 0, .int 0, .int 0, .int 0, .int 0, .int 0, .int 0, .int (-1), .ref q_2, .ref q_8, .ref q_12, .ref q_16, .ref q_20, .ref q_25, .ref q_28, .ref q_33, .ref q_39, .ref q_43, .ref q_46, .ref q_50, .ref q_54, .ref q_58, .int 0, .ref q_62, .ref q_63, .ref q_64, .ref q_65, .ref q_66, .int 0, .ref q_67, .int 0, .int 0, .int 0, .ref q_68, .ref q_69, .ref q_70, .ref q_71, .ref q_72, .int 0, .int 0, .ref q_73, .long 0, .long 0, .int 0, .ref q_74, .ref q_75, .int 0, .int 0, .ref q_76, .ref q_77, .ref q_78, .ref q_79, .ref q_80, .int 0, .ref q_81, .ref q_82, .ref q_83, .ref q_84, .ref q_85, .ref q_86, .ref q_87, .ref q_88, .ref q_89, .ref q_90, .ref q_91, .ref q_92, .ref q_93, .int 0, .long 0, .long 0, .ref q_94, .ref q_95, .int 0, .null, .null, .null, .null, .int 0, .int 0, .null, .null, .int 0, .null, .null] := by rw [efs50, xf49]; rfl
  obtain ⟨t49, et49⟩ : ∃ z : va_W, z = (q_95, .inl (y 2, 800, .inl (fun _ => 0))) :: t48 := ⟨_, rfl⟩
  rw [← et49] at hP hD
  refine lv_aload_n hx hb dX12_init_656 rfl (lv_at hl 0 rfl) ?_
  refine lv_sipush (v := 1760) hx hb dX12_init_657 (by decide) ?_
  refine x_newa (N' := 1760) (a0 := (1760, .inl (fun _ => 0))) (t0 := 4) (ty := .boolean) hx hb (hts (.arrayClass .boolean) (List.mem_of_getElem? (i := 65) rfl)) rfl rfl hK hP hD hS hA (x_aZ 1760) (by decide) (by decide) (by decide) (Nat.le_of_ble_eq_true rfl) (Nat.le_of_ble_eq_true rfl) dX12_init_660 (fun q_96 H hP hD hS => ?_)
  have hP : va_P D vwCl ((h0, .inr (11, fs50)) :: (q_96, .inl (y 4, 1760, .inl (fun _ => 0))) :: t49) H := va_P.swap (a := [(h0, .inr (11, fs50))]) (b := t49) (c := [(q_96, .inl (y 4, 1760, .inl (fun _ => 0)))]) hP
  have hD : va_D A ((h0, .inr (11, fs50)) :: (q_96, .inl (y 4, 1760, .inl (fun _ => 0))) :: t49) := va_D.swap (a := [(h0, .inr (11, fs50))]) (b := t49) (c := [(q_96, .inl (y 4, 1760, .inl (fun _ => 0)))]) hD
  refine W.widen (k := 50) (n := 26669) (Nat.le_of_ble_eq_true rfl) (Nat.le_of_ble_eq_true rfl) ?_
  refine va_putF (D := D) (ci := 11) (v := .ref q_96) (ty := (.array .boolean)) (C := RX12) (T := TX12) (N := 85) hx hb hts inX12 tyX12 tyX12_ok nmX12 hown hK hP hD hS 0 rfl rfl 74 (by decide) fl163 (fun _ h9 => h9) rfl hmn rfl (by decide +kernel) rfl rfl (by rw [hlen50]; decide) dX12_init_662 (fun H locs hP hD hS => ?_)
  have hP : va_P D vwCl ((h0, .inr (11, (fs50.set 74 (.ref q_96)))) :: (q_96, .inl (y 4, 1760, .inl (fun _ => 0))) :: t49) H := hP
  have hD : va_D A ((h0, .inr (11, (fs50.set 74 (.ref q_96)))) :: (q_96, .inl (y 4, 1760, .inl (fun _ => 0))) :: t49) := hD
  obtain ⟨fs51, efs51⟩ : ∃ z : List Value, z = (fs50.set 74 (.ref q_96)) := ⟨_, rfl⟩
  rw [← efs51] at hP hD
  have hlen51 : fs51.length = 85 := by rw [efs51, List.length_set]; exact hlen50
  have xf51 : fs51 = [.ref q_1, .int 0, .int 0, .int 0, .int 0, .int 0, .int 0, .int 0, .int (-1), .ref q_2, .ref q_8, .ref q_12, .ref q_16, .ref q_20, .ref q_25, .ref q_28, .ref q_33, .ref q_39, .ref q_43, .ref q_46, .ref q_50, .ref q_54, .ref q_58, .int 0, .ref q_62, .ref q_63, .ref q_64, .ref q_65, .ref q_66, .int 0, .ref q_67, .int 0, .int 0, .int 0, .ref q_68, .ref q_69, .ref q_70, .ref q_71, .ref q_72, .int 0, .int 0, .ref q_73, .long 0, .long 0, .int 0, .ref q_74, .ref q_75, .int 0, .int 0, .ref q_76, .ref q_77, .ref q_78, .ref q_79, .ref q_80, .int 0, .ref q_81, .ref q_82, .ref q_83, .ref q_84, .ref q_85, .ref q_86, .ref q_87, .ref q_88, .ref q_89, .ref q_90, .ref q_91, .ref q_92, .ref q_93, .int 0, .long 0, .long 0, .ref q_94, .ref q_95, .int 0, .ref q_96, .null, .null, .null, .int 0, .int 0, .null, .null, .int 0, .null, .null] := by rw [efs51, xf50]; rfl
  obtain ⟨t50, et50⟩ : ∃ z : va_W, z = (q_96, .inl (y 4, 1760, .inl (fun _ => 0))) :: t49 := ⟨_, rfl⟩
  rw [← et50] at hP hD
  refine lv_aload_n hx hb dX12_init_665 rfl (lv_at hl 0 rfl) ?_
  refine lv_sipush (v := 5280) hx hb dX12_init_666 (by decide) ?_
  refine x_newa (N' := 5280) (a0 := (5280, .inr (.inl (fun _ => 0)))) (t0 := 3) (ty := .long) hx hb (hts (.arrayClass .long) (List.mem_of_getElem? (i := 64) rfl)) rfl rfl hK hP hD hS hA (x_aJ 5280) (by decide) (by decide) (by decide) (Nat.le_of_ble_eq_true rfl) (Nat.le_of_ble_eq_true rfl) dX12_init_669 (fun q_97 H hP hD hS => ?_)
  have hP : va_P D vwCl ((h0, .inr (11, fs51)) :: (q_97, .inl (y 3, 5280, .inr (.inl (fun _ => 0)))) :: t50) H := va_P.swap (a := [(h0, .inr (11, fs51))]) (b := t50) (c := [(q_97, .inl (y 3, 5280, .inr (.inl (fun _ => 0))))]) hP
  have hD : va_D A ((h0, .inr (11, fs51)) :: (q_97, .inl (y 3, 5280, .inr (.inl (fun _ => 0)))) :: t50) := va_D.swap (a := [(h0, .inr (11, fs51))]) (b := t50) (c := [(q_97, .inl (y 3, 5280, .inr (.inl (fun _ => 0))))]) hD
  refine W.widen (k := 51) (n := 31949) (Nat.le_of_ble_eq_true rfl) (Nat.le_of_ble_eq_true rfl) ?_
  refine va_putF (D := D) (ci := 11) (v := .ref q_97) (ty := (.array .long)) (C := RX12) (T := TX12) (N := 85) hx hb hts inX12 tyX12 tyX12_ok nmX12 hown hK hP hD hS 0 rfl rfl 75 (by decide) fl167 (fun _ h9 => h9) rfl hmn rfl (by decide +kernel) rfl rfl (by rw [hlen51]; decide) dX12_init_671 (fun H locs hP hD hS => ?_)
  have hP : va_P D vwCl ((h0, .inr (11, (fs51.set 75 (.ref q_97)))) :: (q_97, .inl (y 3, 5280, .inr (.inl (fun _ => 0)))) :: t50) H := hP
  have hD : va_D A ((h0, .inr (11, (fs51.set 75 (.ref q_97)))) :: (q_97, .inl (y 3, 5280, .inr (.inl (fun _ => 0)))) :: t50) := hD
  obtain ⟨fs52, efs52⟩ : ∃ z : List Value, z = (fs51.set 75 (.ref q_97)) := ⟨_, rfl⟩
  rw [← efs52] at hP hD
  have hlen52 : fs52.length = 85 := by rw [efs52, List.length_set]; exact hlen51
  have xf52 : fs52 = [.ref q_1, .int 0, .int 0, .int 0, .int 0, .int 0, .int 0, .int 0, .int (-1), .ref q_2, .ref q_8, .ref q_12, .ref q_16, .ref q_20, .ref q_25, .ref q_28, .ref q_33, .ref q_39, .ref q_43, .ref q_46, .ref q_50, .ref q_54, .ref q_58, .int 0, .ref q_62, .ref q_63, .ref q_64, .ref q_65, .ref q_66, .int 0, .ref q_67, .int 0, .int 0, .int 0, .ref q_68, .ref q_69, .ref q_70, .ref q_71, .ref q_72, .int 0, .int 0, .ref q_73, .long 0, .long 0, .int 0, .ref q_74, .ref q_75, .int 0, .int 0, .ref q_76, .ref q_77, .ref q_78, .ref q_79, .ref q_80, .int 0, .ref q_81, .ref q_82, .ref q_83, .ref q_84, .ref q_85, .ref q_86, .ref q_87, .ref q_88, .ref q_89, .ref q_90, .ref q_91, .ref q_92, .ref q_93, .int 0, .long 0, .long 0, .ref q_94, .ref q_95, .int 0, .ref q_96, .ref q_97, .null, .null, .int 0, .int 0, .null, .null, .int 0, .null, .null] := by rw [efs52, xf51]; rfl
  obtain ⟨t51, et51⟩ : ∃ z : va_W, z = (q_97, .inl (y 3, 5280, .inr (.inl (fun _ => 0)))) :: t50 := ⟨_, rfl⟩
  rw [← et51] at hP hD
  refine lv_aload_n hx hb dX12_init_674 rfl (lv_at hl 0 rfl) ?_
  refine lv_sipush (v := 5280) hx hb dX12_init_675 (by decide) ?_
  refine x_newa (N' := 5280) (a0 := (5280, .inr (.inl (fun _ => 0)))) (t0 := 3) (ty := .long) hx hb (hts (.arrayClass .long) (List.mem_of_getElem? (i := 64) rfl)) rfl rfl hK hP hD hS hA (x_aJ 5280) (by decide) (by decide) (by decide) (Nat.le_of_ble_eq_true rfl) (Nat.le_of_ble_eq_true rfl) dX12_init_678 (fun q_98 H hP hD hS => ?_)
  have hP : va_P D vwCl ((h0, .inr (11, fs52)) :: (q_98, .inl (y 3, 5280, .inr (.inl (fun _ => 0)))) :: t51) H := va_P.swap (a := [(h0, .inr (11, fs52))]) (b := t51) (c := [(q_98, .inl (y 3, 5280, .inr (.inl (fun _ => 0))))]) hP
  have hD : va_D A ((h0, .inr (11, fs52)) :: (q_98, .inl (y 3, 5280, .inr (.inl (fun _ => 0)))) :: t51) := va_D.swap (a := [(h0, .inr (11, fs52))]) (b := t51) (c := [(q_98, .inl (y 3, 5280, .inr (.inl (fun _ => 0))))]) hD
  refine W.widen (k := 52) (n := 37229) (Nat.le_of_ble_eq_true rfl) (Nat.le_of_ble_eq_true rfl) ?_
  refine va_putF (D := D) (ci := 11) (v := .ref q_98) (ty := (.array .long)) (C := RX12) (T := TX12) (N := 85) hx hb hts inX12 tyX12 tyX12_ok nmX12 hown hK hP hD hS 0 rfl rfl 76 (by decide) fl170 (fun _ h9 => h9) rfl hmn rfl (by decide +kernel) rfl rfl (by rw [hlen52]; decide) dX12_init_680 (fun H locs hP hD hS => ?_)
  have hP : va_P D vwCl ((h0, .inr (11, (fs52.set 76 (.ref q_98)))) :: (q_98, .inl (y 3, 5280, .inr (.inl (fun _ => 0)))) :: t51) H := hP
  have hD : va_D A ((h0, .inr (11, (fs52.set 76 (.ref q_98)))) :: (q_98, .inl (y 3, 5280, .inr (.inl (fun _ => 0)))) :: t51) := hD
  obtain ⟨fs53, efs53⟩ : ∃ z : List Value, z = (fs52.set 76 (.ref q_98)) := ⟨_, rfl⟩
  rw [← efs53] at hP hD
  have hlen53 : fs53.length = 85 := by rw [efs53, List.length_set]; exact hlen52
  have xf53 : fs53 = [.ref q_1, .int 0, .int 0, .int 0, .int 0, .int 0, .int 0, .int 0, .int (-1), .ref q_2, .ref q_8, .ref q_12, .ref q_16, .ref q_20, .ref q_25, .ref q_28, .ref q_33, .ref q_39, .ref q_43, .ref q_46, .ref q_50, .ref q_54, .ref q_58, .int 0, .ref q_62, .ref q_63, .ref q_64, .ref q_65, .ref q_66, .int 0, .ref q_67, .int 0, .int 0, .int 0, .ref q_68, .ref q_69, .ref q_70, .ref q_71, .ref q_72, .int 0, .int 0, .ref q_73, .long 0, .long 0, .int 0, .ref q_74, .ref q_75, .int 0, .int 0, .ref q_76, .ref q_77, .ref q_78, .ref q_79, .ref q_80, .int 0, .ref q_81, .ref q_82, .ref q_83, .ref q_84, .ref q_85, .ref q_86, .ref q_87, .ref q_88, .ref q_89, .ref q_90, .ref q_91, .ref q_92, .ref q_93, .int 0, .long 0, .long 0, .ref q_94, .ref q_95, .int 0, .ref q_96, .ref q_97, .ref q_98, .null, .int 0, .int 0, .null, .null, .int 0, .null, .null] := by rw [efs53, xf52]; rfl
  obtain ⟨t52, et52⟩ : ∃ z : va_W, z = (q_98, .inl (y 3, 5280, .inr (.inl (fun _ => 0)))) :: t51 := ⟨_, rfl⟩
  rw [← et52] at hP hD
  refine lv_aload_n hx hb dX12_init_683 rfl (lv_at hl 0 rfl) ?_
  refine lv_sipush (v := 1760) hx hb dX12_init_684 (by decide) ?_
  refine x_newa (N' := 1760) (a0 := (1760, .inr (.inl (fun _ => 0)))) (t0 := 3) (ty := .long) hx hb (hts (.arrayClass .long) (List.mem_of_getElem? (i := 64) rfl)) rfl rfl hK hP hD hS hA (x_aJ 1760) (by decide) (by decide) (by decide) (Nat.le_of_ble_eq_true rfl) (Nat.le_of_ble_eq_true rfl) dX12_init_687 (fun q_99 H hP hD hS => ?_)
  have hP : va_P D vwCl ((h0, .inr (11, fs53)) :: (q_99, .inl (y 3, 1760, .inr (.inl (fun _ => 0)))) :: t52) H := va_P.swap (a := [(h0, .inr (11, fs53))]) (b := t52) (c := [(q_99, .inl (y 3, 1760, .inr (.inl (fun _ => 0))))]) hP
  have hD : va_D A ((h0, .inr (11, fs53)) :: (q_99, .inl (y 3, 1760, .inr (.inl (fun _ => 0)))) :: t52) := va_D.swap (a := [(h0, .inr (11, fs53))]) (b := t52) (c := [(q_99, .inl (y 3, 1760, .inr (.inl (fun _ => 0))))]) hD
  refine W.widen (k := 53) (n := 38989) (Nat.le_of_ble_eq_true rfl) (Nat.le_of_ble_eq_true rfl) ?_
  refine va_putF (D := D) (ci := 11) (v := .ref q_99) (ty := (.array .long)) (C := RX12) (T := TX12) (N := 85) hx hb hts inX12 tyX12 tyX12_ok nmX12 hown hK hP hD hS 0 rfl rfl 77 (by decide) fl173 (fun _ h9 => h9) rfl hmn rfl (by decide +kernel) rfl rfl (by rw [hlen53]; decide) dX12_init_689 (fun H locs hP hD hS => ?_)
  have hP : va_P D vwCl ((h0, .inr (11, (fs53.set 77 (.ref q_99)))) :: (q_99, .inl (y 3, 1760, .inr (.inl (fun _ => 0)))) :: t52) H := hP
  have hD : va_D A ((h0, .inr (11, (fs53.set 77 (.ref q_99)))) :: (q_99, .inl (y 3, 1760, .inr (.inl (fun _ => 0)))) :: t52) := hD
  obtain ⟨fs54, efs54⟩ : ∃ z : List Value, z = (fs53.set 77 (.ref q_99)) := ⟨_, rfl⟩
  rw [← efs54] at hP hD
  have hlen54 : fs54.length = 85 := by rw [efs54, List.length_set]; exact hlen53
  have xf54 : fs54 = [.ref q_1, .int 0, .int 0, .int 0, .int 0, .int 0, .int 0, .int 0, .int (-1), .ref q_2, .ref q_8, .ref q_12, .ref q_16, .ref q_20, .ref q_25, .ref q_28, .ref q_33, .ref q_39, .ref q_43, .ref q_46, .ref q_50, .ref q_54, .ref q_58, .int 0, .ref q_62, .ref q_63, .ref q_64, .ref q_65, .ref q_66, .int 0, .ref q_67, .int 0, .int 0, .int 0, .ref q_68, .ref q_69, .ref q_70, .ref q_71, .ref q_72, .int 0, .int 0, .ref q_73, .long 0, .long 0, .int 0, .ref q_74, .ref q_75, .int 0, .int 0, .ref q_76, .ref q_77, .ref q_78, .ref q_79, .ref q_80, .int 0, .ref q_81, .ref q_82, .ref q_83, .ref q_84, .ref q_85, .ref q_86, .ref q_87, .ref q_88, .ref q_89, .ref q_90, .ref q_91, .ref q_92, .ref q_93, .int 0, .long 0, .long 0, .ref q_94, .ref q_95, .int 0, .ref q_96, .ref q_97, .ref q_98, .ref q_99, .int 0, .int 0, .null, .null, .int 0, .null, .null] := by rw [efs54, xf53]; rfl
  obtain ⟨t53, et53⟩ : ∃ z : va_W, z = (q_99, .inl (y 3, 1760, .inr (.inl (fun _ => 0)))) :: t52 := ⟨_, rfl⟩
  rw [← et53] at hP hD
  refine lv_aload_n hx hb dX12_init_692 rfl (lv_at hl 0 rfl) ?_
  refine lv_bipush (v := 8) hx hb dX12_init_693 (by decide) ?_
  refine x_newa (N' := 8) (a0 := (8, .inl (fun _ => 0))) (t0 := 2) (ty := .int) hx hb (hts (.arrayClass .int) (List.mem_of_getElem? (i := 62) rfl)) rfl rfl hK hP hD hS hA (x_aI 8) (by decide) (by decide) (by decide) (Nat.le_of_ble_eq_true rfl) (Nat.le_of_ble_eq_true rfl) dX12_init_695 (fun q_100 H hP hD hS => ?_)
  have hP : va_P D vwCl ((h0, .inr (11, fs54)) :: (q_100, .inl (y 2, 8, .inl (fun _ => 0))) :: t53) H := va_P.swap (a := [(h0, .inr (11, fs54))]) (b := t53) (c := [(q_100, .inl (y 2, 8, .inl (fun _ => 0)))]) hP
  have hD : va_D A ((h0, .inr (11, fs54)) :: (q_100, .inl (y 2, 8, .inl (fun _ => 0))) :: t53) := va_D.swap (a := [(h0, .inr (11, fs54))]) (b := t53) (c := [(q_100, .inl (y 2, 8, .inl (fun _ => 0)))]) hD
  refine W.widen (k := 54) (n := 38997) (Nat.le_of_ble_eq_true rfl) (Nat.le_of_ble_eq_true rfl) ?_
  refine va_putF (D := D) (ci := 11) (v := .ref q_100) (ty := (.array .int)) (C := RX12) (T := TX12) (N := 85) hx hb hts inX12 tyX12 tyX12_ok nmX12 hown hK hP hD hS 0 rfl rfl 80 (by decide) fl176 (fun _ h9 => h9) rfl hmn rfl (by decide +kernel) rfl rfl (by rw [hlen54]; decide) dX12_init_697 (fun H locs hP hD hS => ?_)
  have hP : va_P D vwCl ((h0, .inr (11, (fs54.set 80 (.ref q_100)))) :: (q_100, .inl (y 2, 8, .inl (fun _ => 0))) :: t53) H := hP
  have hD : va_D A ((h0, .inr (11, (fs54.set 80 (.ref q_100)))) :: (q_100, .inl (y 2, 8, .inl (fun _ => 0))) :: t53) := hD
  obtain ⟨fs55, efs55⟩ : ∃ z : List Value, z = (fs54.set 80 (.ref q_100)) := ⟨_, rfl⟩
  rw [← efs55] at hP hD
  have hlen55 : fs55.length = 85 := by rw [efs55, List.length_set]; exact hlen54
  have xf55 : fs55 = [.ref q_1, .int 0, .int 0, .int 0, .int 0, .int 0, .int 0, .int 0, .int (-1), .ref q_2, .ref q_8, .ref q_12, .ref q_16, .ref q_20, .ref q_25, .ref q_28, .ref q_33, .ref q_39, .ref q_43, .ref q_46, .ref q_50, .ref q_54, .ref q_58, .int 0, .ref q_62, .ref q_63, .ref q_64, .ref q_65, .ref q_66, .int 0, .ref q_67, .int 0, .int 0, .int 0, .ref q_68, .ref q_69, .ref q_70, .ref q_71, .ref q_72, .int 0, .int 0, .ref q_73, .long 0, .long 0, .int 0, .ref q_74, .ref q_75, .int 0, .int 0, .ref q_76, .ref q_77, .ref q_78, .ref q_79, .ref q_80, .int 0, .ref q_81, .ref q_82, .ref q_83, .ref q_84, .ref q_85, .ref q_86, .ref q_87, .ref q_88, .ref q_89, .ref q_90, .ref q_91, .ref q_92, .ref q_93, .int 0, .long 0, .long 0, .ref q_94, .ref q_95, .int 0, .ref q_96, .ref q_97, .ref q_98, .ref q_99, .int 0, .int 0, .ref q_100, .null, .int 0, .null, .null] := by rw [efs55, xf54]; rfl
  obtain ⟨t54, et54⟩ : ∃ z : va_W, z = (q_100, .inl (y 2, 8, .inl (fun _ => 0))) :: t53 := ⟨_, rfl⟩
  rw [← et54] at hP hD
  refine lv_aload_n hx hb dX12_init_700 rfl (lv_at hl 0 rfl) ?_
  refine lv_bipush (v := 8) hx hb dX12_init_701 (by decide) ?_
  refine x_newa (N' := 8) (a0 := (8, .inl (fun _ => 0))) (t0 := 2) (ty := .int) hx hb (hts (.arrayClass .int) (List.mem_of_getElem? (i := 62) rfl)) rfl rfl hK hP hD hS hA (x_aI 8) (by decide) (by decide) (by decide) (Nat.le_of_ble_eq_true rfl) (Nat.le_of_ble_eq_true rfl) dX12_init_703 (fun q_101 H hP hD hS => ?_)
  have hP : va_P D vwCl ((h0, .inr (11, fs55)) :: (q_101, .inl (y 2, 8, .inl (fun _ => 0))) :: t54) H := va_P.swap (a := [(h0, .inr (11, fs55))]) (b := t54) (c := [(q_101, .inl (y 2, 8, .inl (fun _ => 0)))]) hP
  have hD : va_D A ((h0, .inr (11, fs55)) :: (q_101, .inl (y 2, 8, .inl (fun _ => 0))) :: t54) := va_D.swap (a := [(h0, .inr (11, fs55))]) (b := t54) (c := [(q_101, .inl (y 2, 8, .inl (fun _ => 0)))]) hD
  refine W.widen (k := 55) (n := 39005) (Nat.le_of_ble_eq_true rfl) (Nat.le_of_ble_eq_true rfl) ?_
  refine va_putF (D := D) (ci := 11) (v := .ref q_101) (ty := (.array .int)) (C := RX12) (T := TX12) (N := 85) hx hb hts inX12 tyX12 tyX12_ok nmX12 hown hK hP hD hS 0 rfl rfl 81 (by decide) fl179 (fun _ h9 => h9) rfl hmn rfl (by decide +kernel) rfl rfl (by rw [hlen55]; decide) dX12_init_705 (fun H locs hP hD hS => ?_)
  have hP : va_P D vwCl ((h0, .inr (11, (fs55.set 81 (.ref q_101)))) :: (q_101, .inl (y 2, 8, .inl (fun _ => 0))) :: t54) H := hP
  have hD : va_D A ((h0, .inr (11, (fs55.set 81 (.ref q_101)))) :: (q_101, .inl (y 2, 8, .inl (fun _ => 0))) :: t54) := hD
  obtain ⟨fs56, efs56⟩ : ∃ z : List Value, z = (fs55.set 81 (.ref q_101)) := ⟨_, rfl⟩
  rw [← efs56] at hP hD
  have hlen56 : fs56.length = 85 := by rw [efs56, List.length_set]; exact hlen55
  have xf56 : fs56 = [.ref q_1, .int 0, .int 0, .int 0, .int 0, .int 0, .int 0, .int 0, .int (-1), .ref q_2, .ref q_8, .ref q_12, .ref q_16, .ref q_20, .ref q_25, .ref q_28, .ref q_33, .ref q_39, .ref q_43, .ref q_46, .ref q_50, .ref q_54, .ref q_58, .int 0, .ref q_62, .ref q_63, .ref q_64, .ref q_65, .ref q_66, .int 0, .ref q_67, .int 0, .int 0, .int 0, .ref q_68, .ref q_69, .ref q_70, .ref q_71, .ref q_72, .int 0, .int 0, .ref q_73, .long 0, .long 0, .int 0, .ref q_74, .ref q_75, .int 0, .int 0, .ref q_76, .ref q_77, .ref q_78, .ref q_79, .ref q_80, .int 0, .ref q_81, .ref q_82, .ref q_83, .ref q_84, .ref q_85, .ref q_86, .ref q_87, .ref q_88, .ref q_89, .ref q_90, .ref q_91, .ref q_92, .ref q_93, .int 0, .long 0, .long 0, .ref q_94, .ref q_95, .int 0, .ref q_96, .ref q_97, .ref q_98, .ref q_99, .int 0, .int 0, .ref q_100, .ref q_101, .int 0, .null, .null] := by rw [efs56, xf55]; rfl
  obtain ⟨t55, et55⟩ : ∃ z : va_W, z = (q_101, .inl (y 2, 8, .inl (fun _ => 0))) :: t54 := ⟨_, rfl⟩
  rw [← et55] at hP hD
  refine lv_aload_n hx hb dX12_init_708 rfl (lv_at hl 0 rfl) ?_
  refine lv_sipush (v := 1111) hx hb dX12_init_709 (by decide) ?_
  refine x_newa (N' := 1111) (a0 := (1111, .inl (fun _ => 0))) (t0 := 2) (ty := .int) hx hb (hts (.arrayClass .int) (List.mem_of_getElem? (i := 62) rfl)) rfl rfl hK hP hD hS hA (x_aI 1111) (by decide) (by decide) (by decide) (Nat.le_of_ble_eq_true rfl) (Nat.le_of_ble_eq_true rfl) dX12_init_712 (fun q_102 H hP hD hS => ?_)
  have hP : va_P D vwCl ((h0, .inr (11, fs56)) :: (q_102, .inl (y 2, 1111, .inl (fun _ => 0))) :: t55) H := va_P.swap (a := [(h0, .inr (11, fs56))]) (b := t55) (c := [(q_102, .inl (y 2, 1111, .inl (fun _ => 0)))]) hP
  have hD : va_D A ((h0, .inr (11, fs56)) :: (q_102, .inl (y 2, 1111, .inl (fun _ => 0))) :: t55) := va_D.swap (a := [(h0, .inr (11, fs56))]) (b := t55) (c := [(q_102, .inl (y 2, 1111, .inl (fun _ => 0)))]) hD
  refine W.widen (k := 56) (n := 40116) (Nat.le_of_ble_eq_true rfl) (Nat.le_of_ble_eq_true rfl) ?_
  refine va_putF (D := D) (ci := 11) (v := .ref q_102) (ty := (.array .int)) (C := RX12) (T := TX12) (N := 85) hx hb hts inX12 tyX12 tyX12_ok nmX12 hown hK hP hD hS 0 rfl rfl 83 (by decide) fl182 (fun _ h9 => h9) rfl hmn rfl (by decide +kernel) rfl rfl (by rw [hlen56]; decide) dX12_init_714 (fun H locs hP hD hS => ?_)
  have hP : va_P D vwCl ((h0, .inr (11, (fs56.set 83 (.ref q_102)))) :: (q_102, .inl (y 2, 1111, .inl (fun _ => 0))) :: t55) H := hP
  have hD : va_D A ((h0, .inr (11, (fs56.set 83 (.ref q_102)))) :: (q_102, .inl (y 2, 1111, .inl (fun _ => 0))) :: t55) := hD
  obtain ⟨fs57, efs57⟩ : ∃ z : List Value, z = (fs56.set 83 (.ref q_102)) := ⟨_, rfl⟩
  rw [← efs57] at hP hD
  have hlen57 : fs57.length = 85 := by rw [efs57, List.length_set]; exact hlen56
  have xf57 : fs57 = [.ref q_1, .int 0, .int 0, .int 0, .int 0, .int 0, .int 0, .int 0, .int (-1), .ref q_2, .ref q_8, .ref q_12, .ref q_16, .ref q_20, .ref q_25, .ref q_28, .ref q_33, .ref q_39, .ref q_43, .ref q_46, .ref q_50, .ref q_54, .ref q_58, .int 0, .ref q_62, .ref q_63, .ref q_64, .ref q_65, .ref q_66, .int 0, .ref q_67, .int 0, .int 0, .int 0, .ref q_68, .ref q_69, .ref q_70, .ref q_71, .ref q_72, .int 0, .int 0, .ref q_73, .long 0, .long 0, .int 0, .ref q_74, .ref q_75, .int 0, .int 0, .ref q_76, .ref q_77, .ref q_78, .ref q_79, .ref q_80, .int 0, .ref q_81, .ref q_82, .ref q_83, .ref q_84, .ref q_85, .ref q_86, .ref q_87, .ref q_88, .ref q_89, .ref q_90, .ref q_91, .ref q_92, .ref q_93, .int 0, .long 0, .long 0, .ref q_94, .ref q_95, .int 0, .ref q_96, .ref q_97, .ref q_98, .ref q_99, .int 0, .int 0, .ref q_100, .ref q_101, .int 0, .ref q_102, .null] := by rw [efs57, xf56]; rfl
  obtain ⟨t56, et56⟩ : ∃ z : va_W, z = (q_102, .inl (y 2, 1111, .inl (fun _ => 0))) :: t55 := ⟨_, rfl⟩
  rw [← et56] at hP hD
  refine lv_aload_n hx hb dX12_init_717 rfl (lv_at hl 0 rfl) ?_
  refine lv_sipush (v := 1111) hx hb dX12_init_718 (by decide) ?_
  refine x_newa (N' := 1111) (a0 := (1111, .inl (fun _ => 0))) (t0 := 2) (ty := .int) hx hb (hts (.arrayClass .int) (List.mem_of_getElem? (i := 62) rfl)) rfl rfl hK hP hD hS hA (x_aI 1111) (by decide) (by decide) (by decide) (Nat.le_of_ble_eq_true rfl) (Nat.le_of_ble_eq_true rfl) dX12_init_721 (fun q_103 H hP hD hS => ?_)
  have hP : va_P D vwCl ((h0, .inr (11, fs57)) :: (q_103, .inl (y 2, 1111, .inl (fun _ => 0))) :: t56) H := va_P.swap (a := [(h0, .inr (11, fs57))]) (b := t56) (c := [(q_103, .inl (y 2, 1111, .inl (fun _ => 0)))]) hP
  have hD : va_D A ((h0, .inr (11, fs57)) :: (q_103, .inl (y 2, 1111, .inl (fun _ => 0))) :: t56) := va_D.swap (a := [(h0, .inr (11, fs57))]) (b := t56) (c := [(q_103, .inl (y 2, 1111, .inl (fun _ => 0)))]) hD
  refine W.widen (k := 57) (n := 41227) (Nat.le_of_ble_eq_true rfl) (Nat.le_of_ble_eq_true rfl) ?_
  refine va_putF (D := D) (ci := 11) (v := .ref q_103) (ty := (.array .int)) (C := RX12) (T := TX12) (N := 85) hx hb hts inX12 tyX12 tyX12_ok nmX12 hown hK hP hD hS 0 rfl rfl 84 (by decide) fl185 (fun _ h9 => h9) rfl hmn rfl (by decide +kernel) rfl rfl (by rw [hlen57]; decide) dX12_init_723 (fun H locs hP hD hS => ?_)
  have hP : va_P D vwCl ((h0, .inr (11, (fs57.set 84 (.ref q_103)))) :: (q_103, .inl (y 2, 1111, .inl (fun _ => 0))) :: t56) H := hP
  have hD : va_D A ((h0, .inr (11, (fs57.set 84 (.ref q_103)))) :: (q_103, .inl (y 2, 1111, .inl (fun _ => 0))) :: t56) := hD
  obtain ⟨fs58, efs58⟩ : ∃ z : List Value, z = (fs57.set 84 (.ref q_103)) := ⟨_, rfl⟩
  rw [← efs58] at hP hD
  have hlen58 : fs58.length = 85 := by rw [efs58, List.length_set]; exact hlen57
  have xf58 : fs58 = [.ref q_1, .int 0, .int 0, .int 0, .int 0, .int 0, .int 0, .int 0, .int (-1), .ref q_2, .ref q_8, .ref q_12, .ref q_16, .ref q_20, .ref q_25, .ref q_28, .ref q_33, .ref q_39, .ref q_43, .ref q_46, .ref q_50, .ref q_54, .ref q_58, .int 0, .ref q_62, .ref q_63, .ref q_64, .ref q_65, .ref q_66, .int 0, .ref q_67, .int 0, .int 0, .int 0, .ref q_68, .ref q_69, .ref q_70, .ref q_71, .ref q_72, .int 0, .int 0, .ref q_73, .long 0, .long 0, .int 0, .ref q_74, .ref q_75, .int 0, .int 0, .ref q_76, .ref q_77, .ref q_78, .ref q_79, .ref q_80, .int 0, .ref q_81, .ref q_82, .ref q_83, .ref q_84, .ref q_85, .ref q_86, .ref q_87, .ref q_88, .ref q_89, .ref q_90, .ref q_91, .ref q_92, .ref q_93, .int 0, .long 0, .long 0, .ref q_94, .ref q_95, .int 0, .ref q_96, .ref q_97, .ref q_98, .ref q_99, .int 0, .int 0, .ref q_100, .ref q_101, .int 0, .ref q_102, .ref q_103] := by rw [efs58, xf57]; rfl
  obtain ⟨t57, et57⟩ : ∃ z : va_W, z = (q_103, .inl (y 2, 1111, .inl (fun _ => 0))) :: t56 := ⟨_, rfl⟩
  rw [← et57] at hP hD
  have fe0 := et0
  have fe1 := et1.trans (x_co rfl fe0)
  have fe2 := et2.trans (x_co rfl fe1)
  have fe3 := et3.trans (x_co rfl fe2)
  have fe4 := et4.trans (x_co rfl fe3)
  have fe5 := et5.trans (x_co rfl fe4)
  have fe6 := et6.trans (x_co rfl fe5)
  have fe7 := et7.trans (x_co rfl fe6)
  have fe8 := et8.trans (x_co rfl fe7)
  have fe9 := et9.trans (x_co rfl fe8)
  have fe10 := et10.trans (x_co rfl fe9)
  have fe11 := et11.trans (x_co rfl fe10)
  have fe12 := et12.trans (x_co rfl fe11)
  have fe13 := et13.trans (x_co rfl fe12)
  have fe14 := et14.trans (x_co rfl fe13)
  have fe15 := et15.trans (x_co rfl fe14)
  have fe16 := et16.trans (x_co rfl fe15)
  have fe17 := et17.trans (x_co rfl fe16)
  have fe18 := et18.trans (x_co rfl fe17)
  have fe19 := et19.trans (x_co rfl fe18)
  have fe20 := et20.trans (x_co rfl fe19)
  have fe21 := et21.trans (x_co rfl fe20)
  have fe22 := et22.trans (x_co rfl fe21)
  have fe23 := et23.trans (x_co rfl fe22)
  have fe24 := et24.trans (x_co rfl fe23)
  have fe25 := et25.trans (x_co rfl fe24)
  have fe26 := et26.trans (x_co rfl fe25)
  have fe27 := et27.trans (x_co rfl fe26)
  have fe28 := et28.trans (x_co rfl fe27)
  have fe29 := et29.trans (x_co rfl fe28)
  have fe30 := et30.trans (x_co rfl fe29)
  have fe31 := et31.trans (x_co rfl fe30)
  have fe32 := et32.trans (x_co rfl fe31)
  have fe33 := et33.trans (x_co rfl fe32)
  have fe34 := et34.trans (x_co rfl fe33)
  have fe35 := et35.trans (x_co rfl fe34)
  have fe36 := et36.trans (x_co rfl fe35)
  have fe37 := et37.trans (x_co rfl fe36)
  have fe38 := et38.trans (x_co rfl fe37)
  have fe39 := et39.trans (x_co rfl fe38)
  have fe40 := et40.trans (x_co rfl fe39)
  have fe41 := et41.trans (x_co rfl fe40)
  have fe42 := et42.trans (x_co rfl fe41)
  have fe43 := et43.trans (x_co rfl fe42)
  have fe44 := et44.trans (x_co rfl fe43)
  have fe45 := et45.trans (x_co rfl fe44)
  have fe46 := et46.trans (x_co rfl fe45)
  have fe47 := et47.trans (x_co rfl fe46)
  have fe48 := et48.trans (x_co rfl fe47)
  have fe49 := et49.trans (x_co rfl fe48)
  have fe50 := et50.trans (x_co rfl fe49)
  have fe51 := et51.trans (x_co rfl fe50)
  have fe52 := et52.trans (x_co rfl fe51)
  have fe53 := et53.trans (x_co rfl fe52)
  have fe54 := et54.trans (x_co rfl fe53)
  have fe55 := et55.trans (x_co rfl fe54)
  have fe56 := et56.trans (x_co rfl fe55)
  have fe57 := et57.trans (x_co rfl fe56)
  have hP := x_trP hP (x_co (x_oc xf58) fe57)
  have hD := x_trD hD (x_co (x_oc xf58) fe57)
  obtain ⟨u9, h91, h92, h93⟩ := m_init_w D A H y h0 q_1 q_2 q_8 q_12 q_16 q_20 q_25 q_28 q_33 q_39 q_43 q_46 q_50 q_54 q_58 q_62 q_63 q_64 q_65 q_66 q_67 q_68 q_69 q_70 q_71 q_72 q_73 q_74 q_75 q_76 q_77 q_78 q_79 q_80 q_81 q_82 q_83 q_84 q_85 q_86 q_87 q_88 q_89 q_90 q_91 q_92 q_93 q_94 q_95 q_96 q_97 q_98 q_99 q_100 q_101 q_102 q_103 f_7 f_11 f_15 f_19 f_24 f_27 f_32 f_38 f_42 f_45 f_49 f_53 f_57 f_61 hP hD
  exact x_vretW (u := u9) hx hb hr hQ h91 h92 h93 hK hS dX12_init_726 hlocks


