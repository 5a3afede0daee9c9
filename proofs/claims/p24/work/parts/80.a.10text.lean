theorem dX9_init_0 : decode cX9_init 0 = .ok (.aload_n 0, 1) := by decide +kernel
theorem dX9_init_1 : decode cX9_init 1 = .ok (.invokespecial 3, 3) := by decide +kernel
theorem dX9_init_4 : decode cX9_init 4 = .ok (.aload_n 0, 1) := by decide +kernel
theorem dX9_init_5 : decode cX9_init 5 = .ok (.sipush 700, 3) := by decide +kernel
theorem dX9_init_8 : decode cX9_init 8 = .ok (.newarray .byte, 2) := by decide +kernel
theorem dX9_init_10 : decode cX9_init 10 = .ok (.putfield 11, 3) := by decide +kernel
theorem dX9_init_13 : decode cX9_init 13 = .ok (.return_, 1) := by decide +kernel
def v_c_Text_init : List Cond := .code yX9_init cX9_init 1 none :: ([.fieldLink RX9 11 "SlopeRunner$Text" "bytes" "[B", .methodLink RX9 3 objectInit, .instanceMethod objectInit, .code objectInit ⟨#[0xb1]⟩ 1 none, .arrayClass .byte] ++ wsX90)
set_option maxHeartbeats 4000000 in
set_option maxRecDepth 100000 in
theorem c_Text_init (l : Launch) (D : va_G) (y : Nat → ClassId) (sz : Nat) (h0 : Nat) : Met l yX9_init v_c_Text_init ({ frames := 1, cells := 1, slots := 700, locals := 12 } : Room) (va_Pc [.ref h0] (xPre D (xT y) [(h0, .inr (8, [.null, .int 0]))] sz)) (va_Qv (fun (_ : Nat) => True) (fun (u : Nat) => xB D (xT y) (va_A [(h0, .inr (8, [.null, .int 0]))] sz) [(h0, .inr (8, [.ref u, .int 0])), (u, .inl (y 0, 700, .inl (fun _ => 0)))]) (va_A [(h0, .inr (8, [.null, .int 0]))] sz)) 1 700 (va_A [(h0, .inr (8, [.null, .int 0]))] sz) := by
  refine x_metv (cc := cX9_init) (maxL := 1) (by decide) rfl (Nat.le_of_ble_eq_true rfl) ?_
  intro p e s m below meth c A H locs Q hx hb hml hown hts hr hlocks hmn hA hP hK hD hS ls hl hQ
  have hl : lv_has ls 1 [(0, .ref h0)] := hl
  have fl11 := hts (.fieldLink RX9 11 "SlopeRunner$Text" "bytes" "[B") (by decide +kernel)
  have inX9 : ∀ w ∈ wsX90, w ∈ v_c_Text_init := (fun w h => List.mem_cons_of_mem _ (List.mem_append_right _ h))
  refine lv_aload_n hx hb dX9_init_0 rfl (lv_at hl 0 rfl) ?_
  refine W.objInit hx hb hown (hts (.methodLink RX9 3 objectInit) (by decide +kernel)) (hts (.instanceMethod objectInit) (by decide +kernel)) (hts (.code objectInit ⟨#[0xb1]⟩ 1 none) (by decide +kernel)) rfl (by rw [hml]; exact hl.1) rfl dX9_init_1 (Nat.le_of_ble_eq_true rfl) (Nat.le_of_ble_eq_true rfl) ?_
  refine W.eq (g2 := F0 m 4 ls []) rfl ?_
  refine lv_aload_n hx hb dX9_init_4 rfl (lv_at hl 0 rfl) ?_
  refine lv_sipush (v := 700) hx hb dX9_init_5 (by decide) ?_
  refine x_newa (N' := 700) (a0 := (700, .inl (fun _ => 0))) (t0 := 0) (ty := .byte) hx hb (hts (.arrayClass .byte) (by decide +kernel)) rfl rfl hK hP hD hS hA (x_aB 700) (by decide) (by decide) (by decide) (Nat.le_of_ble_eq_true rfl) (Nat.le_of_ble_eq_true rfl) dX9_init_8 (fun q_1 H hP hD hS => ?_)
  have hP : va_P D vwCl [(h0, .inr (8, [.null, .int 0])), (q_1, .inl (y 0, 700, .inl (fun _ => 0)))] H := hP
  have hD : va_D A [(h0, .inr (8, [.null, .int 0])), (q_1, .inl (y 0, 700, .inl (fun _ => 0)))] := hD
  refine W.widen (k := 1) (n := 700) (Nat.le_of_ble_eq_true rfl) (Nat.le_of_ble_eq_true rfl) ?_
  refine va_putF (D := D) (ci := 8) (v := .ref q_1) (ty := (.array .byte)) (C := RX9) (T := TX9) (N := 2) hx hb hts inX9 tyX9 tyX9_ok nmX9 hown hK hP hD hS 0 rfl rfl 0 (by decide) fl11 (fun _ h9 => h9) rfl hmn rfl (by decide +kernel) rfl rfl (Nat.le_of_ble_eq_true rfl) dX9_init_10 (fun H locs hP hD hS => ?_)
  have hP : va_P D vwCl [(h0, .inr (8, [.ref q_1, .int 0])), (q_1, .inl (y 0, 700, .inl (fun _ => 0)))] H := hP
  have hD : va_D A [(h0, .inr (8, [.ref q_1, .int 0])), (q_1, .inl (y 0, 700, .inl (fun _ => 0)))] := hD
  exact x_vret (u := q_1) hx hb hr trivial hP hD hK hS [0, 1] rfl (by decide) dX9_init_13 hlocks hQ


