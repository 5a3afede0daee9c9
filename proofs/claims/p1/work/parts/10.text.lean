theorem dX9_hasRoomFor_0 : decode cX9_hasRoomFor 0 = .ok (.aload_n 0, 1) := by decide +kernel
theorem dX9_hasRoomFor_1 : decode cX9_hasRoomFor 1 = .ok (.getfield 15, 3) := by decide +kernel
theorem dX9_hasRoomFor_4 : decode cX9_hasRoomFor 4 = .ok (.iload_n 1, 1) := by decide +kernel
theorem dX9_hasRoomFor_5 : decode cX9_hasRoomFor 5 = .ok (.iadd, 1) := by decide +kernel
theorem dX9_hasRoomFor_6 : decode cX9_hasRoomFor 6 = .ok (.sipush 700, 3) := by decide +kernel
theorem dX9_hasRoomFor_9 : decode cX9_hasRoomFor 9 = .ok (.if_icmp .gt 7, 3) := by decide +kernel
theorem dX9_hasRoomFor_12 : decode cX9_hasRoomFor 12 = .ok (.iconst 1, 1) := by decide +kernel
theorem dX9_hasRoomFor_13 : decode cX9_hasRoomFor 13 = .ok (.goto 4, 3) := by decide +kernel
theorem dX9_hasRoomFor_16 : decode cX9_hasRoomFor 16 = .ok (.iconst 0, 1) := by decide +kernel
theorem dX9_hasRoomFor_17 : decode cX9_hasRoomFor 17 = .ok (.ireturn, 1) := by decide +kernel
theorem dX9_addFour_0 : decode cX9_addFour 0 = .ok (.bipush 24, 2) := by decide +kernel
theorem dX9_addFour_2 : decode cX9_addFour 2 = .ok (.istore_n 2, 1) := by decide +kernel
theorem dX9_addFour_3 : decode cX9_addFour 3 = .ok (.iload_n 2, 1) := by decide +kernel
theorem dX9_addFour_4 : decode cX9_addFour 4 = .ok (.ifCond .lt 42, 3) := by decide +kernel
theorem dX9_addFour_7 : decode cX9_addFour 7 = .ok (.aload_n 0, 1) := by decide +kernel
theorem dX9_addFour_8 : decode cX9_addFour 8 = .ok (.getfield 15, 3) := by decide +kernel
theorem dX9_addFour_11 : decode cX9_addFour 11 = .ok (.sipush 700, 3) := by decide +kernel
theorem dX9_addFour_14 : decode cX9_addFour 14 = .ok (.if_icmp .ge 32, 3) := by decide +kernel
theorem dX9_addFour_17 : decode cX9_addFour 17 = .ok (.aload_n 0, 1) := by decide +kernel
theorem dX9_addFour_18 : decode cX9_addFour 18 = .ok (.getfield 11, 3) := by decide +kernel
theorem dX9_addFour_21 : decode cX9_addFour 21 = .ok (.aload_n 0, 1) := by decide +kernel
theorem dX9_addFour_22 : decode cX9_addFour 22 = .ok (.getfield 15, 3) := by decide +kernel
theorem dX9_addFour_25 : decode cX9_addFour 25 = .ok (.iload_n 1, 1) := by decide +kernel
theorem dX9_addFour_26 : decode cX9_addFour 26 = .ok (.iload_n 2, 1) := by decide +kernel
theorem dX9_addFour_27 : decode cX9_addFour 27 = .ok (.ishr, 1) := by decide +kernel
theorem dX9_addFour_28 : decode cX9_addFour 28 = .ok (.i2b, 1) := by decide +kernel
theorem dX9_addFour_29 : decode cX9_addFour 29 = .ok (.bastore, 1) := by decide +kernel
theorem dX9_addFour_30 : decode cX9_addFour 30 = .ok (.aload_n 0, 1) := by decide +kernel
theorem dX9_addFour_31 : decode cX9_addFour 31 = .ok (.dup, 1) := by decide +kernel
theorem dX9_addFour_32 : decode cX9_addFour 32 = .ok (.getfield 15, 3) := by decide +kernel
theorem dX9_addFour_35 : decode cX9_addFour 35 = .ok (.iconst 1, 1) := by decide +kernel
theorem dX9_addFour_36 : decode cX9_addFour 36 = .ok (.iadd, 1) := by decide +kernel
theorem dX9_addFour_37 : decode cX9_addFour 37 = .ok (.putfield 15, 3) := by decide +kernel
theorem dX9_addFour_40 : decode cX9_addFour 40 = .ok (.iinc 2 (-8), 3) := by decide +kernel
theorem dX9_addFour_43 : decode cX9_addFour 43 = .ok (.goto (-40), 3) := by decide +kernel
theorem dX9_addFour_46 : decode cX9_addFour 46 = .ok (.return_, 1) := by decide +kernel
theorem dX9_cutTo_0 : decode cX9_cutTo 0 = .ok (.iload_n 1, 1) := by decide +kernel
theorem dX9_cutTo_1 : decode cX9_cutTo 1 = .ok (.ifCond .lt 11, 3) := by decide +kernel
theorem dX9_cutTo_4 : decode cX9_cutTo 4 = .ok (.iload_n 1, 1) := by decide +kernel
theorem dX9_cutTo_5 : decode cX9_cutTo 5 = .ok (.aload_n 0, 1) := by decide +kernel
theorem dX9_cutTo_6 : decode cX9_cutTo 6 = .ok (.getfield 15, 3) := by decide +kernel
theorem dX9_cutTo_9 : decode cX9_cutTo 9 = .ok (.if_icmp .le 5, 3) := by decide +kernel
theorem dX9_cutTo_12 : decode cX9_cutTo 12 = .ok (.iconst 0, 1) := by decide +kernel
theorem dX9_cutTo_13 : decode cX9_cutTo 13 = .ok (.ireturn, 1) := by decide +kernel
theorem dX9_cutTo_14 : decode cX9_cutTo 14 = .ok (.aload_n 0, 1) := by decide +kernel
theorem dX9_cutTo_15 : decode cX9_cutTo 15 = .ok (.iload_n 1, 1) := by decide +kernel
theorem dX9_cutTo_16 : decode cX9_cutTo 16 = .ok (.putfield 15, 3) := by decide +kernel
theorem dX9_cutTo_19 : decode cX9_cutTo 19 = .ok (.iconst 1, 1) := by decide +kernel
theorem dX9_cutTo_20 : decode cX9_cutTo 20 = .ok (.ireturn, 1) := by decide +kernel
theorem dX9_size_0 : decode cX9_size 0 = .ok (.aload_n 0, 1) := by decide +kernel
theorem dX9_size_1 : decode cX9_size 1 = .ok (.getfield 15, 3) := by decide +kernel
theorem dX9_size_4 : decode cX9_size 4 = .ok (.ireturn, 1) := by decide +kernel
theorem dX9_init_0 : decode cX9_init 0 = .ok (.aload_n 0, 1) := by decide +kernel
theorem dX9_init_1 : decode cX9_init 1 = .ok (.invokespecial 3, 3) := by decide +kernel
theorem dX9_init_4 : decode cX9_init 4 = .ok (.aload_n 0, 1) := by decide +kernel
theorem dX9_init_5 : decode cX9_init 5 = .ok (.sipush 700, 3) := by decide +kernel
theorem dX9_init_8 : decode cX9_init 8 = .ok (.newarray .byte, 2) := by decide +kernel
theorem dX9_init_10 : decode cX9_init 10 = .ok (.putfield 11, 3) := by decide +kernel
theorem dX9_init_13 : decode cX9_init 13 = .ok (.return_, 1) := by decide +kernel
def v_c_Text_hasRoomFor : List Cond := .code yX9_hasRoomFor cX9_hasRoomFor 2 (some .boolean) :: ([.fieldLink RX9 15 "SlopeRunner$Text" "length" "I"] ++ wsX90)
set_option maxHeartbeats 4000000 in
set_option maxRecDepth 100000 in
theorem c_Text_hasRoomFor (l : Launch) (D : va_G) (y : Nat → ClassId) (sz : Nat) (h0 h1 : Nat) (f : Nat → Int32) (n : Int32) (hn0 : 0 ≤ n.toInt) (hn1 : n.toInt ≤ 700) : Met l yX9_hasRoomFor v_c_Text_hasRoomFor ({ frames := 0, cells := 0, slots := 0, locals := 0 } : Room) (va_Pc [.ref h0, .int 20] (xPre D (xT y) [(h0, .inr (8, [.ref h1, .int n])), (h1, .inl (y 0, 700, .inl f))] sz)) (va_Qi (fun (r : Int32) (_ : Unit) => (r = 1 ∧ n.toInt + 20 ≤ 700) ∨ (r = 0 ∧ 700 < n.toInt + 20)) (fun (u : Unit) => xB D (xT y) (va_A [(h0, .inr (8, [.ref h1, .int n])), (h1, .inl (y 0, 700, .inl f))] sz) [(h0, .inr (8, [.ref h1, .int n])), (h1, .inl (y 0, 700, .inl f))]) (va_A [(h0, .inr (8, [.ref h1, .int n])), (h1, .inl (y 0, 700, .inl f))] sz)) 0 0 (va_A [(h0, .inr (8, [.ref h1, .int n])), (h1, .inl (y 0, 700, .inl f))] sz) := by
  refine x_meti (cc := cX9_hasRoomFor) (maxL := 2) (by decide) rfl (Nat.le_of_ble_eq_true rfl) ?_
  intro p e s m below meth c A H locs Q hx hb hml hown hts hr hlocks hmn hA hP hK hD hS ls hl hQ
  have hl : lv_has ls 2 [(0, .ref h0), (1, .int 20)] := hl
  have fl15 := hts (.fieldLink RX9 15 "SlopeRunner$Text" "length" "I") (by decide +kernel)
  have inX9 : ∀ w ∈ wsX90, w ∈ v_c_Text_hasRoomFor := (fun w h => List.mem_cons_of_mem _ (List.mem_append_right _ h))
  refine lv_aload_n hx hb dX9_hasRoomFor_0 rfl (lv_at hl 0 rfl) ?_
  refine va_get (D := D) (ci := 8) (v := .int n) (C := RX9) (T := TX9) (N := 2) hx hb hts inX9 hown hK hP 0 rfl rfl 1 (by decide) fl15 (fun _ h9 => h9) rfl dX9_hasRoomFor_1 ?_
  refine lv_iload_n hx hb dX9_hasRoomFor_4 rfl (lv_at hl 1 rfl) ?_
  refine lv_iadd hx hb dX9_hasRoomFor_5 ?_
  refine lv_topi (fun i_1 ei_1 => ?_)
  refine lv_sipush (v := 700) hx hb dX9_hasRoomFor_6 (by decide) ?_
  have vi_1 := x_add ei_1 (by rw [show (20 : Int32).toInt = 20 from rfl]; omega) (by rw [show (20 : Int32).toInt = 20 from rfl]; omega)
  rw [show (20 : Int32).toInt = 20 from rfl] at vi_1
  refine lv_icmp_gt (tgt := 16) hx hb dX9_hasRoomFor_9 (by decide) (fun c_2 => ?_) (fun c_2 => ?_)
  · refine lv_iconst (v := 0) hx hb dX9_hasRoomFor_16 (by decide) ?_
    exact x_zret (v := 0) (u := ()) hx hb hr rfl (by have k7 : (700 : Int32).toInt = 700 := rfl; rw [x_lt, k7] at c_2; first | exact Or.inl ⟨rfl, by omega⟩ | exact Or.inr ⟨rfl, by omega⟩) hP hD hK hS [0, 1] rfl (by decide) dX9_hasRoomFor_17 hlocks hQ
  · refine lv_iconst (v := 1) hx hb dX9_hasRoomFor_12 (by decide) ?_
    refine lv_goto (tgt := 17) hx hb dX9_hasRoomFor_13 (by decide) ?_
    exact x_zret (v := 1) (u := ()) hx hb hr rfl (by have k7 : (700 : Int32).toInt = 700 := rfl; rw [x_lt, k7] at c_2; first | exact Or.inl ⟨rfl, by omega⟩ | exact Or.inr ⟨rfl, by omega⟩) hP hD hK hS [0, 1] rfl (by decide) dX9_hasRoomFor_17 hlocks hQ

def v_c_Text_addFour : List Cond := .code yX9_addFour cX9_addFour 3 none :: ([.fieldLink RX9 15 "SlopeRunner$Text" "length" "I", .fieldLink RX9 11 "SlopeRunner$Text" "bytes" "[B"] ++ wsX90)
set_option maxHeartbeats 4000000 in
set_option maxRecDepth 100000 in
theorem c_Text_addFour (l : Launch) (D : va_G) (y : Nat → ClassId) (sz : Nat) (h0 h1 : Nat) (f : Nat → Int32) (n : Int32) (hn0 : 0 ≤ n.toInt) (hn1 : n.toInt ≤ 696) (k : Int32) : Met l yX9_addFour v_c_Text_addFour ({ frames := 0, cells := 0, slots := 0, locals := 0 } : Room) (va_Pc [.ref h0, .int k] (xPre D (xT y) [(h0, .inr (8, [.ref h1, .int n])), (h1, .inl (y 0, 700, .inl f))] sz)) (va_Qv (fun (u : Int32 × (Nat → Int32)) => u.1.toInt = n.toInt + 4) (fun (u : Int32 × (Nat → Int32)) => xB D (xT y) (va_A [(h0, .inr (8, [.ref h1, .int n])), (h1, .inl (y 0, 700, .inl f))] sz) [(h0, .inr (8, [.ref h1, .int u.1])), (h1, .inl (y 0, 700, .inl u.2))]) (va_A [(h0, .inr (8, [.ref h1, .int n])), (h1, .inl (y 0, 700, .inl f))] sz)) 0 0 (va_A [(h0, .inr (8, [.ref h1, .int n])), (h1, .inl (y 0, 700, .inl f))] sz) := by
  refine x_metv (cc := cX9_addFour) (maxL := 3) (by decide) rfl (Nat.le_of_ble_eq_true rfl) ?_
  intro p e s m below meth c A H locs Q hx hb hml hown hts hr hlocks hmn hA hP hK hD hS ls hl hQ
  have hl : lv_has ls 3 [(0, .ref h0), (1, .int k)] := hl
  have fl15 := hts (.fieldLink RX9 15 "SlopeRunner$Text" "length" "I") (by decide +kernel)
  have inX9 : ∀ w ∈ wsX90, w ∈ v_c_Text_addFour := (fun w h => List.mem_cons_of_mem _ (List.mem_append_right _ h))
  have fl11 := hts (.fieldLink RX9 11 "SlopeRunner$Text" "bytes" "[B") (by decide +kernel)
  refine lv_bipush (v := 24) hx hb dX9_addFour_0 (by decide) ?_
  refine lv_istore_n (lv' := [(2, .int 24), (0, .ref h0), (1, .int k)]) hx hb dX9_addFour_2 rfl hl (by decide) rfl (fun ls hl => ?_)
  refine lv_iload_n hx hb dX9_addFour_3 rfl (lv_at hl 0 rfl) ?_
  refine lv_if_lt (tgt := 46) hx hb dX9_addFour_4 (by decide) (fun c_1 => ?_) (fun c_1 => ?_)
  · exact absurd c_1 (by decide)
  · refine lv_aload_n hx hb dX9_addFour_7 rfl (lv_at hl 1 rfl) ?_
    refine va_get (D := D) (ci := 8) (v := .int n) (C := RX9) (T := TX9) (N := 2) hx hb hts inX9 hown hK hP 0 rfl rfl 1 (by decide) fl15 (fun _ h9 => h9) rfl dX9_addFour_8 ?_
    refine lv_sipush (v := 700) hx hb dX9_addFour_11 (by decide) ?_
    refine lv_icmp_ge (tgt := 46) hx hb dX9_addFour_14 (by decide) (fun c_2 => ?_) (fun c_2 => ?_)
    · exact absurd c_2 (by rw [x_le, show (700 : Int32).toInt = 700 from rfl]; omega)
    · refine lv_aload_n hx hb dX9_addFour_17 rfl (lv_at hl 1 rfl) ?_
      refine va_get (D := D) (ci := 8) (v := .ref h1) (C := RX9) (T := TX9) (N := 2) hx hb hts inX9 hown hK hP 0 rfl rfl 0 (by decide) fl11 (fun _ h9 => h9) rfl dX9_addFour_18 ?_
      refine lv_aload_n hx hb dX9_addFour_21 rfl (lv_at hl 1 rfl) ?_
      refine va_get (D := D) (ci := 8) (v := .int n) (C := RX9) (T := TX9) (N := 2) hx hb hts inX9 hown hK hP 0 rfl rfl 1 (by decide) fl15 (fun _ h9 => h9) rfl dX9_addFour_22 ?_
      refine lv_iload_n hx hb dX9_addFour_25 rfl (lv_at hl 2 rfl) ?_
      refine lv_iload_n hx hb dX9_addFour_26 rfl (lv_at hl 0 rfl) ?_
      refine lv_ishr hx hb dX9_addFour_27 ?_
      refine lv_topi (fun i_3 ei_3 => ?_)
      refine lv_i2b hx hb dX9_addFour_28 rfl ?_
      refine lv_topi (fun i_4 ei_4 => ?_)
      refine va_bast hx hb hK hP hD hS 1 0 rfl rfl (x_in (by omega) (by omega)) dX9_addFour_29 (fun H locs hP hD hS => ?_)
      obtain ⟨f_5, ef_5⟩ : ∃ z : Nat → Int32, z = (upd f (Int32.toNatClampNeg n) (vp_nar .byte i_4)) := ⟨_, rfl⟩
      rw [← ef_5] at hP hD
      have hP : va_P D vwCl [(h0, .inr (8, [.ref h1, .int n])), (h1, .inl (y 0, 700, .inl f_5))] H := hP
      have hD : va_D A [(h0, .inr (8, [.ref h1, .int n])), (h1, .inl (y 0, 700, .inl f_5))] := hD
      refine lv_aload_n hx hb dX9_addFour_30 rfl (lv_at hl 1 rfl) ?_
      refine lv_dup hx hb dX9_addFour_31 rfl ?_
      refine va_get (D := D) (ci := 8) (v := .int n) (C := RX9) (T := TX9) (N := 2) hx hb hts inX9 hown hK hP 0 rfl rfl 1 (by decide) fl15 (fun _ h9 => h9) rfl dX9_addFour_32 ?_
      refine lv_iconst (v := 1) hx hb dX9_addFour_35 (by decide) ?_
      refine lv_iadd hx hb dX9_addFour_36 ?_
      refine lv_topi (fun i_6 ei_6 => ?_)
      have vi_6 := x_add ei_6 (by rw [show (1 : Int32).toInt = 1 from rfl]; omega) (by rw [show (1 : Int32).toInt = 1 from rfl]; omega)
      rw [show (1 : Int32).toInt = 1 from rfl] at vi_6
      refine va_put (D := D) (ci := 8) (v := .int i_6) (ty := .int) (C := RX9) (T := TX9) (N := 2) hx hb hts inX9 tyX9 tyX9_ok nmX9 hown hK hP hD hS 0 rfl rfl 1 (by decide) fl15 (fun _ h9 => h9) rfl (by decide +kernel) rfl rfl (Nat.le_of_ble_eq_true rfl) dX9_addFour_37 (fun H locs hP hD hS => ?_)
      have hP : va_P D vwCl [(h0, .inr (8, [.ref h1, .int i_6])), (h1, .inl (y 0, 700, .inl f_5))] H := hP
      have hD : va_D A [(h0, .inr (8, [.ref h1, .int i_6])), (h1, .inl (y 0, 700, .inl f_5))] := hD
      refine lv_iinc (v := 16) (lv' := [(2, .int 16), (0, .ref h0), (1, .int k)]) hx hb dX9_addFour_40 hl (k := 0) rfl (by decide) (by decide) rfl (fun ls hl => ?_)
      refine lv_goto (tgt := 3) hx hb dX9_addFour_43 (by decide) ?_
      refine lv_iload_n hx hb dX9_addFour_3 rfl (lv_at hl 0 rfl) ?_
      refine lv_if_lt (tgt := 46) hx hb dX9_addFour_4 (by decide) (fun c_7 => ?_) (fun c_7 => ?_)
      · exact absurd c_7 (by decide)
      · refine lv_aload_n hx hb dX9_addFour_7 rfl (lv_at hl 1 rfl) ?_
        refine va_get (D := D) (ci := 8) (v := .int i_6) (C := RX9) (T := TX9) (N := 2) hx hb hts inX9 hown hK hP 0 rfl rfl 1 (by decide) fl15 (fun _ h9 => h9) rfl dX9_addFour_8 ?_
        refine lv_sipush (v := 700) hx hb dX9_addFour_11 (by decide) ?_
        refine lv_icmp_ge (tgt := 46) hx hb dX9_addFour_14 (by decide) (fun c_8 => ?_) (fun c_8 => ?_)
        · exact absurd c_8 (by rw [x_le, show (700 : Int32).toInt = 700 from rfl]; omega)
        · refine lv_aload_n hx hb dX9_addFour_17 rfl (lv_at hl 1 rfl) ?_
          refine va_get (D := D) (ci := 8) (v := .ref h1) (C := RX9) (T := TX9) (N := 2) hx hb hts inX9 hown hK hP 0 rfl rfl 0 (by decide) fl11 (fun _ h9 => h9) rfl dX9_addFour_18 ?_
          refine lv_aload_n hx hb dX9_addFour_21 rfl (lv_at hl 1 rfl) ?_
          refine va_get (D := D) (ci := 8) (v := .int i_6) (C := RX9) (T := TX9) (N := 2) hx hb hts inX9 hown hK hP 0 rfl rfl 1 (by decide) fl15 (fun _ h9 => h9) rfl dX9_addFour_22 ?_
          refine lv_iload_n hx hb dX9_addFour_25 rfl (lv_at hl 2 rfl) ?_
          refine lv_iload_n hx hb dX9_addFour_26 rfl (lv_at hl 0 rfl) ?_
          refine lv_ishr hx hb dX9_addFour_27 ?_
          refine lv_topi (fun i_9 ei_9 => ?_)
          refine lv_i2b hx hb dX9_addFour_28 rfl ?_
          refine lv_topi (fun i_10 ei_10 => ?_)
          refine va_bast hx hb hK hP hD hS 1 0 rfl rfl (x_in (by omega) (by omega)) dX9_addFour_29 (fun H locs hP hD hS => ?_)
          obtain ⟨f_11, ef_11⟩ : ∃ z : Nat → Int32, z = (upd f_5 (Int32.toNatClampNeg i_6) (vp_nar .byte i_10)) := ⟨_, rfl⟩
          rw [← ef_11] at hP hD
          have hP : va_P D vwCl [(h0, .inr (8, [.ref h1, .int i_6])), (h1, .inl (y 0, 700, .inl f_11))] H := hP
          have hD : va_D A [(h0, .inr (8, [.ref h1, .int i_6])), (h1, .inl (y 0, 700, .inl f_11))] := hD
          refine lv_aload_n hx hb dX9_addFour_30 rfl (lv_at hl 1 rfl) ?_
          refine lv_dup hx hb dX9_addFour_31 rfl ?_
          refine va_get (D := D) (ci := 8) (v := .int i_6) (C := RX9) (T := TX9) (N := 2) hx hb hts inX9 hown hK hP 0 rfl rfl 1 (by decide) fl15 (fun _ h9 => h9) rfl dX9_addFour_32 ?_
          refine lv_iconst (v := 1) hx hb dX9_addFour_35 (by decide) ?_
          refine lv_iadd hx hb dX9_addFour_36 ?_
          refine lv_topi (fun i_12 ei_12 => ?_)
          have vi_12 := x_add ei_12 (by rw [show (1 : Int32).toInt = 1 from rfl]; omega) (by rw [show (1 : Int32).toInt = 1 from rfl]; omega)
          rw [show (1 : Int32).toInt = 1 from rfl] at vi_12
          refine va_put (D := D) (ci := 8) (v := .int i_12) (ty := .int) (C := RX9) (T := TX9) (N := 2) hx hb hts inX9 tyX9 tyX9_ok nmX9 hown hK hP hD hS 0 rfl rfl 1 (by decide) fl15 (fun _ h9 => h9) rfl (by decide +kernel) rfl rfl (Nat.le_of_ble_eq_true rfl) dX9_addFour_37 (fun H locs hP hD hS => ?_)
          have hP : va_P D vwCl [(h0, .inr (8, [.ref h1, .int i_12])), (h1, .inl (y 0, 700, .inl f_11))] H := hP
          have hD : va_D A [(h0, .inr (8, [.ref h1, .int i_12])), (h1, .inl (y 0, 700, .inl f_11))] := hD
          refine lv_iinc (v := 8) (lv' := [(2, .int 8), (0, .ref h0), (1, .int k)]) hx hb dX9_addFour_40 hl (k := 0) rfl (by decide) (by decide) rfl (fun ls hl => ?_)
          refine lv_goto (tgt := 3) hx hb dX9_addFour_43 (by decide) ?_
          refine lv_iload_n hx hb dX9_addFour_3 rfl (lv_at hl 0 rfl) ?_
          refine lv_if_lt (tgt := 46) hx hb dX9_addFour_4 (by decide) (fun c_13 => ?_) (fun c_13 => ?_)
          · exact absurd c_13 (by decide)
          · refine lv_aload_n hx hb dX9_addFour_7 rfl (lv_at hl 1 rfl) ?_
            refine va_get (D := D) (ci := 8) (v := .int i_12) (C := RX9) (T := TX9) (N := 2) hx hb hts inX9 hown hK hP 0 rfl rfl 1 (by decide) fl15 (fun _ h9 => h9) rfl dX9_addFour_8 ?_
            refine lv_sipush (v := 700) hx hb dX9_addFour_11 (by decide) ?_
            refine lv_icmp_ge (tgt := 46) hx hb dX9_addFour_14 (by decide) (fun c_14 => ?_) (fun c_14 => ?_)
            · exact absurd c_14 (by rw [x_le, show (700 : Int32).toInt = 700 from rfl]; omega)
            · refine lv_aload_n hx hb dX9_addFour_17 rfl (lv_at hl 1 rfl) ?_
              refine va_get (D := D) (ci := 8) (v := .ref h1) (C := RX9) (T := TX9) (N := 2) hx hb hts inX9 hown hK hP 0 rfl rfl 0 (by decide) fl11 (fun _ h9 => h9) rfl dX9_addFour_18 ?_
              refine lv_aload_n hx hb dX9_addFour_21 rfl (lv_at hl 1 rfl) ?_
              refine va_get (D := D) (ci := 8) (v := .int i_12) (C := RX9) (T := TX9) (N := 2) hx hb hts inX9 hown hK hP 0 rfl rfl 1 (by decide) fl15 (fun _ h9 => h9) rfl dX9_addFour_22 ?_
              refine lv_iload_n hx hb dX9_addFour_25 rfl (lv_at hl 2 rfl) ?_
              refine lv_iload_n hx hb dX9_addFour_26 rfl (lv_at hl 0 rfl) ?_
              refine lv_ishr hx hb dX9_addFour_27 ?_
              refine lv_topi (fun i_15 ei_15 => ?_)
              refine lv_i2b hx hb dX9_addFour_28 rfl ?_
              refine lv_topi (fun i_16 ei_16 => ?_)
              refine va_bast hx hb hK hP hD hS 1 0 rfl rfl (x_in (by omega) (by omega)) dX9_addFour_29 (fun H locs hP hD hS => ?_)
              obtain ⟨f_17, ef_17⟩ : ∃ z : Nat → Int32, z = (upd f_11 (Int32.toNatClampNeg i_12) (vp_nar .byte i_16)) := ⟨_, rfl⟩
              rw [← ef_17] at hP hD
              have hP : va_P D vwCl [(h0, .inr (8, [.ref h1, .int i_12])), (h1, .inl (y 0, 700, .inl f_17))] H := hP
              have hD : va_D A [(h0, .inr (8, [.ref h1, .int i_12])), (h1, .inl (y 0, 700, .inl f_17))] := hD
              refine lv_aload_n hx hb dX9_addFour_30 rfl (lv_at hl 1 rfl) ?_
              refine lv_dup hx hb dX9_addFour_31 rfl ?_
              refine va_get (D := D) (ci := 8) (v := .int i_12) (C := RX9) (T := TX9) (N := 2) hx hb hts inX9 hown hK hP 0 rfl rfl 1 (by decide) fl15 (fun _ h9 => h9) rfl dX9_addFour_32 ?_
              refine lv_iconst (v := 1) hx hb dX9_addFour_35 (by decide) ?_
              refine lv_iadd hx hb dX9_addFour_36 ?_
              refine lv_topi (fun i_18 ei_18 => ?_)
              have vi_18 := x_add ei_18 (by rw [show (1 : Int32).toInt = 1 from rfl]; omega) (by rw [show (1 : Int32).toInt = 1 from rfl]; omega)
              rw [show (1 : Int32).toInt = 1 from rfl] at vi_18
              refine va_put (D := D) (ci := 8) (v := .int i_18) (ty := .int) (C := RX9) (T := TX9) (N := 2) hx hb hts inX9 tyX9 tyX9_ok nmX9 hown hK hP hD hS 0 rfl rfl 1 (by decide) fl15 (fun _ h9 => h9) rfl (by decide +kernel) rfl rfl (Nat.le_of_ble_eq_true rfl) dX9_addFour_37 (fun H locs hP hD hS => ?_)
              have hP : va_P D vwCl [(h0, .inr (8, [.ref h1, .int i_18])), (h1, .inl (y 0, 700, .inl f_17))] H := hP
              have hD : va_D A [(h0, .inr (8, [.ref h1, .int i_18])), (h1, .inl (y 0, 700, .inl f_17))] := hD
              refine lv_iinc (v := 0) (lv' := [(2, .int 0), (0, .ref h0), (1, .int k)]) hx hb dX9_addFour_40 hl (k := 0) rfl (by decide) (by decide) rfl (fun ls hl => ?_)
              refine lv_goto (tgt := 3) hx hb dX9_addFour_43 (by decide) ?_
              refine lv_iload_n hx hb dX9_addFour_3 rfl (lv_at hl 0 rfl) ?_
              refine lv_if_lt (tgt := 46) hx hb dX9_addFour_4 (by decide) (fun c_19 => ?_) (fun c_19 => ?_)
              · exact absurd c_19 (by decide)
              · refine lv_aload_n hx hb dX9_addFour_7 rfl (lv_at hl 1 rfl) ?_
                refine va_get (D := D) (ci := 8) (v := .int i_18) (C := RX9) (T := TX9) (N := 2) hx hb hts inX9 hown hK hP 0 rfl rfl 1 (by decide) fl15 (fun _ h9 => h9) rfl dX9_addFour_8 ?_
                refine lv_sipush (v := 700) hx hb dX9_addFour_11 (by decide) ?_
                refine lv_icmp_ge (tgt := 46) hx hb dX9_addFour_14 (by decide) (fun c_20 => ?_) (fun c_20 => ?_)
                · exact absurd c_20 (by rw [x_le, show (700 : Int32).toInt = 700 from rfl]; omega)
                · refine lv_aload_n hx hb dX9_addFour_17 rfl (lv_at hl 1 rfl) ?_
                  refine va_get (D := D) (ci := 8) (v := .ref h1) (C := RX9) (T := TX9) (N := 2) hx hb hts inX9 hown hK hP 0 rfl rfl 0 (by decide) fl11 (fun _ h9 => h9) rfl dX9_addFour_18 ?_
                  refine lv_aload_n hx hb dX9_addFour_21 rfl (lv_at hl 1 rfl) ?_
                  refine va_get (D := D) (ci := 8) (v := .int i_18) (C := RX9) (T := TX9) (N := 2) hx hb hts inX9 hown hK hP 0 rfl rfl 1 (by decide) fl15 (fun _ h9 => h9) rfl dX9_addFour_22 ?_
                  refine lv_iload_n hx hb dX9_addFour_25 rfl (lv_at hl 2 rfl) ?_
                  refine lv_iload_n hx hb dX9_addFour_26 rfl (lv_at hl 0 rfl) ?_
                  refine lv_ishr hx hb dX9_addFour_27 ?_
                  refine lv_topi (fun i_21 ei_21 => ?_)
                  refine lv_i2b hx hb dX9_addFour_28 rfl ?_
                  refine lv_topi (fun i_22 ei_22 => ?_)
                  refine va_bast hx hb hK hP hD hS 1 0 rfl rfl (x_in (by omega) (by omega)) dX9_addFour_29 (fun H locs hP hD hS => ?_)
                  obtain ⟨f_23, ef_23⟩ : ∃ z : Nat → Int32, z = (upd f_17 (Int32.toNatClampNeg i_18) (vp_nar .byte i_22)) := ⟨_, rfl⟩
                  rw [← ef_23] at hP hD
                  have hP : va_P D vwCl [(h0, .inr (8, [.ref h1, .int i_18])), (h1, .inl (y 0, 700, .inl f_23))] H := hP
                  have hD : va_D A [(h0, .inr (8, [.ref h1, .int i_18])), (h1, .inl (y 0, 700, .inl f_23))] := hD
                  refine lv_aload_n hx hb dX9_addFour_30 rfl (lv_at hl 1 rfl) ?_
                  refine lv_dup hx hb dX9_addFour_31 rfl ?_
                  refine va_get (D := D) (ci := 8) (v := .int i_18) (C := RX9) (T := TX9) (N := 2) hx hb hts inX9 hown hK hP 0 rfl rfl 1 (by decide) fl15 (fun _ h9 => h9) rfl dX9_addFour_32 ?_
                  refine lv_iconst (v := 1) hx hb dX9_addFour_35 (by decide) ?_
                  refine lv_iadd hx hb dX9_addFour_36 ?_
                  refine lv_topi (fun i_24 ei_24 => ?_)
                  have vi_24 := x_add ei_24 (by rw [show (1 : Int32).toInt = 1 from rfl]; omega) (by rw [show (1 : Int32).toInt = 1 from rfl]; omega)
                  rw [show (1 : Int32).toInt = 1 from rfl] at vi_24
                  refine va_put (D := D) (ci := 8) (v := .int i_24) (ty := .int) (C := RX9) (T := TX9) (N := 2) hx hb hts inX9 tyX9 tyX9_ok nmX9 hown hK hP hD hS 0 rfl rfl 1 (by decide) fl15 (fun _ h9 => h9) rfl (by decide +kernel) rfl rfl (Nat.le_of_ble_eq_true rfl) dX9_addFour_37 (fun H locs hP hD hS => ?_)
                  have hP : va_P D vwCl [(h0, .inr (8, [.ref h1, .int i_24])), (h1, .inl (y 0, 700, .inl f_23))] H := hP
                  have hD : va_D A [(h0, .inr (8, [.ref h1, .int i_24])), (h1, .inl (y 0, 700, .inl f_23))] := hD
                  refine lv_iinc (v := (-8)) (lv' := [(2, .int (-8)), (0, .ref h0), (1, .int k)]) hx hb dX9_addFour_40 hl (k := 0) rfl (by decide) (by decide) rfl (fun ls hl => ?_)
                  refine lv_goto (tgt := 3) hx hb dX9_addFour_43 (by decide) ?_
                  refine lv_iload_n hx hb dX9_addFour_3 rfl (lv_at hl 0 rfl) ?_
                  refine lv_if_lt (tgt := 46) hx hb dX9_addFour_4 (by decide) (fun c_25 => ?_) (fun c_25 => ?_)
                  · exact x_vret (u := (i_24, f_23)) hx hb hr (by (try dsimp only); (try simp only [lg_cmp_lt, lg_cmp_le, lg_cmp_gt, lg_cmp_ge] at *); (try simp only [x_lt, x_le, Int32.reduceToInt, x_ltL, x_leL, Int64.reduceToInt] at *); omega) hP hD hK hS [0, 1] rfl (by decide) dX9_addFour_46 hlocks hQ
                  · exact absurd (by decide) c_25

def v_c_Text_cutTo : List Cond := .code yX9_cutTo cX9_cutTo 2 (some .boolean) :: ([.fieldLink RX9 15 "SlopeRunner$Text" "length" "I"] ++ wsX90)
set_option maxHeartbeats 4000000 in
set_option maxRecDepth 100000 in
theorem c_Text_cutTo (l : Launch) (D : va_G) (y : Nat → ClassId) (sz : Nat) (h0 h1 : Nat) (f : Nat → Int32) (n : Int32) (hn0 : 0 ≤ n.toInt) (hn1 : n.toInt ≤ 700) (k : Int32) : Met l yX9_cutTo v_c_Text_cutTo ({ frames := 0, cells := 0, slots := 0, locals := 0 } : Room) (va_Pc [.ref h0, .int k] (xPre D (xT y) [(h0, .inr (8, [.ref h1, .int n])), (h1, .inl (y 0, 700, .inl f))] sz)) (va_Qi (fun (r : Int32) (u : Int32) => (r = 1 ∧ 0 ≤ k.toInt ∧ k.toInt ≤ n.toInt ∧ u = k) ∨ (r = 0 ∧ (k.toInt < 0 ∨ n.toInt < k.toInt) ∧ u = n)) (fun (u : Int32) => xB D (xT y) (va_A [(h0, .inr (8, [.ref h1, .int n])), (h1, .inl (y 0, 700, .inl f))] sz) [(h0, .inr (8, [.ref h1, .int u])), (h1, .inl (y 0, 700, .inl f))]) (va_A [(h0, .inr (8, [.ref h1, .int n])), (h1, .inl (y 0, 700, .inl f))] sz)) 0 0 (va_A [(h0, .inr (8, [.ref h1, .int n])), (h1, .inl (y 0, 700, .inl f))] sz) := by
  refine x_meti (cc := cX9_cutTo) (maxL := 2) (by decide) rfl (Nat.le_of_ble_eq_true rfl) ?_
  intro p e s m below meth c A H locs Q hx hb hml hown hts hr hlocks hmn hA hP hK hD hS ls hl hQ
  have hl : lv_has ls 2 [(0, .ref h0), (1, .int k)] := hl
  have fl15 := hts (.fieldLink RX9 15 "SlopeRunner$Text" "length" "I") (by decide +kernel)
  have inX9 : ∀ w ∈ wsX90, w ∈ v_c_Text_cutTo := (fun w h => List.mem_cons_of_mem _ (List.mem_append_right _ h))
  refine lv_iload_n hx hb dX9_cutTo_0 rfl (lv_at hl 1 rfl) ?_
  refine lv_if_lt (tgt := 12) hx hb dX9_cutTo_1 (by decide) (fun c_1 => ?_) (fun c_1 => ?_)
  · refine lv_iconst (v := 0) hx hb dX9_cutTo_12 (by decide) ?_
    exact x_zret (v := 0) (u := n) hx hb hr rfl (by first | exact Or.inl ⟨rfl, (by (try dsimp only); (try simp only [lg_cmp_lt, lg_cmp_le, lg_cmp_gt, lg_cmp_ge] at *); (try simp only [x_lt, x_le, Int32.reduceToInt, x_ltL, x_leL, Int64.reduceToInt] at *); omega), (by (try dsimp only); (try simp only [lg_cmp_lt, lg_cmp_le, lg_cmp_gt, lg_cmp_ge] at *); (try simp only [x_lt, x_le, Int32.reduceToInt, x_ltL, x_leL, Int64.reduceToInt] at *); omega), rfl⟩ | exact Or.inr ⟨rfl, (by (try dsimp only); (try simp only [lg_cmp_lt, lg_cmp_le, lg_cmp_gt, lg_cmp_ge] at *); (try simp only [x_lt, x_le, Int32.reduceToInt, x_ltL, x_leL, Int64.reduceToInt] at *); omega), rfl⟩) hP hD hK hS [0, 1] rfl (by decide) dX9_cutTo_13 hlocks hQ
  · refine lv_iload_n hx hb dX9_cutTo_4 rfl (lv_at hl 1 rfl) ?_
    refine lv_aload_n hx hb dX9_cutTo_5 rfl (lv_at hl 0 rfl) ?_
    refine va_get (D := D) (ci := 8) (v := .int n) (C := RX9) (T := TX9) (N := 2) hx hb hts inX9 hown hK hP 0 rfl rfl 1 (by decide) fl15 (fun _ h9 => h9) rfl dX9_cutTo_6 ?_
    refine lv_icmp_le (tgt := 14) hx hb dX9_cutTo_9 (by decide) (fun c_2 => ?_) (fun c_2 => ?_)
    · refine lv_aload_n hx hb dX9_cutTo_14 rfl (lv_at hl 0 rfl) ?_
      refine lv_iload_n hx hb dX9_cutTo_15 rfl (lv_at hl 1 rfl) ?_
      refine va_put (D := D) (ci := 8) (v := .int k) (ty := .int) (C := RX9) (T := TX9) (N := 2) hx hb hts inX9 tyX9 tyX9_ok nmX9 hown hK hP hD hS 0 rfl rfl 1 (by decide) fl15 (fun _ h9 => h9) rfl (by decide +kernel) rfl rfl (Nat.le_of_ble_eq_true rfl) dX9_cutTo_16 (fun H locs hP hD hS => ?_)
      have hP : va_P D vwCl [(h0, .inr (8, [.ref h1, .int k])), (h1, .inl (y 0, 700, .inl f))] H := hP
      have hD : va_D A [(h0, .inr (8, [.ref h1, .int k])), (h1, .inl (y 0, 700, .inl f))] := hD
      refine lv_iconst (v := 1) hx hb dX9_cutTo_19 (by decide) ?_
      exact x_zret (v := 1) (u := k) hx hb hr rfl (by first | exact Or.inl ⟨rfl, (by (try dsimp only); (try simp only [lg_cmp_lt, lg_cmp_le, lg_cmp_gt, lg_cmp_ge] at *); (try simp only [x_lt, x_le, Int32.reduceToInt, x_ltL, x_leL, Int64.reduceToInt] at *); omega), (by (try dsimp only); (try simp only [lg_cmp_lt, lg_cmp_le, lg_cmp_gt, lg_cmp_ge] at *); (try simp only [x_lt, x_le, Int32.reduceToInt, x_ltL, x_leL, Int64.reduceToInt] at *); omega), rfl⟩ | exact Or.inr ⟨rfl, (by (try dsimp only); (try simp only [lg_cmp_lt, lg_cmp_le, lg_cmp_gt, lg_cmp_ge] at *); (try simp only [x_lt, x_le, Int32.reduceToInt, x_ltL, x_leL, Int64.reduceToInt] at *); omega), rfl⟩) hP hD hK hS [0, 1] rfl (by decide) dX9_cutTo_20 hlocks hQ
    · refine lv_iconst (v := 0) hx hb dX9_cutTo_12 (by decide) ?_
      exact x_zret (v := 0) (u := n) hx hb hr rfl (by first | exact Or.inl ⟨rfl, (by (try dsimp only); (try simp only [lg_cmp_lt, lg_cmp_le, lg_cmp_gt, lg_cmp_ge] at *); (try simp only [x_lt, x_le, Int32.reduceToInt, x_ltL, x_leL, Int64.reduceToInt] at *); omega), (by (try dsimp only); (try simp only [lg_cmp_lt, lg_cmp_le, lg_cmp_gt, lg_cmp_ge] at *); (try simp only [x_lt, x_le, Int32.reduceToInt, x_ltL, x_leL, Int64.reduceToInt] at *); omega), rfl⟩ | exact Or.inr ⟨rfl, (by (try dsimp only); (try simp only [lg_cmp_lt, lg_cmp_le, lg_cmp_gt, lg_cmp_ge] at *); (try simp only [x_lt, x_le, Int32.reduceToInt, x_ltL, x_leL, Int64.reduceToInt] at *); omega), rfl⟩) hP hD hK hS [0, 1] rfl (by decide) dX9_cutTo_13 hlocks hQ

def v_c_Text_size : List Cond := .code yX9_size cX9_size 1 (some .int) :: ([.fieldLink RX9 15 "SlopeRunner$Text" "length" "I"] ++ wsX90)
set_option maxHeartbeats 4000000 in
set_option maxRecDepth 100000 in
theorem c_Text_size (l : Launch) (D : va_G) (y : Nat → ClassId) (sz : Nat) (h0 h1 : Nat) (f : Nat → Int32) (n : Int32) (hn0 : 0 ≤ n.toInt) (hn1 : n.toInt ≤ 700) : Met l yX9_size v_c_Text_size ({ frames := 0, cells := 0, slots := 0, locals := 0 } : Room) (va_Pc [.ref h0] (xPre D (xT y) [(h0, .inr (8, [.ref h1, .int n])), (h1, .inl (y 0, 700, .inl f))] sz)) (va_Qi (fun (r : Int32) (_ : Unit) => r = n) (fun (u : Unit) => xB D (xT y) (va_A [(h0, .inr (8, [.ref h1, .int n])), (h1, .inl (y 0, 700, .inl f))] sz) [(h0, .inr (8, [.ref h1, .int n])), (h1, .inl (y 0, 700, .inl f))]) (va_A [(h0, .inr (8, [.ref h1, .int n])), (h1, .inl (y 0, 700, .inl f))] sz)) 0 0 (va_A [(h0, .inr (8, [.ref h1, .int n])), (h1, .inl (y 0, 700, .inl f))] sz) := by
  refine x_meti (cc := cX9_size) (maxL := 1) (by decide) rfl (Nat.le_of_ble_eq_true rfl) ?_
  intro p e s m below meth c A H locs Q hx hb hml hown hts hr hlocks hmn hA hP hK hD hS ls hl hQ
  have hl : lv_has ls 1 [(0, .ref h0)] := hl
  have fl15 := hts (.fieldLink RX9 15 "SlopeRunner$Text" "length" "I") (by decide +kernel)
  have inX9 : ∀ w ∈ wsX90, w ∈ v_c_Text_size := (fun w h => List.mem_cons_of_mem _ (List.mem_append_right _ h))
  refine lv_aload_n hx hb dX9_size_0 rfl (lv_at hl 0 rfl) ?_
  refine va_get (D := D) (ci := 8) (v := .int n) (C := RX9) (T := TX9) (N := 2) hx hb hts inX9 hown hK hP 0 rfl rfl 1 (by decide) fl15 (fun _ h9 => h9) rfl dX9_size_1 ?_
  exact x_iret (v := n) (u := ()) hx hb hr rfl hP hD hK hS [0, 1] rfl (by decide) dX9_size_4 hlocks hQ

def v_c_Text_init : List Cond := .code yX9_init cX9_init 1 none :: ([.fieldLink RX9 11 "SlopeRunner$Text" "bytes" "[B", .methodLink RX9 3 objectInit, .instanceMethod objectInit, .code objectInit ⟨#[0xb1]⟩ 1 none, .arrayClass .byte] ++ wsX90)
set_option maxHeartbeats 4000000 in
set_option maxRecDepth 100000 in
theorem c_Text_init (l : Launch) (D : va_G) (y : Nat → ClassId) (sz : Nat) (h0 : Nat) : Met l yX9_init v_c_Text_init ({ frames := 1, cells := 1, slots := 700, locals := 12 } : Room) (va_Pc [.ref h0] (xPre D (xT y) [(h0, .inr (8, [.null, .int 0]))] sz)) (va_Qv (fun (_ : Nat) => True) (fun (u : Nat) => xB D (xT y) (va_A [(h0, .inr (8, [.null, .int 0]))] sz) [(h0, .inr (8, [.ref u, .int 0])), (u, .inl (y 0, 700, .inl (fun _ => 0)))]) (va_A [(h0, .inr (8, [.null, .int 0]))] sz)) 1 700 (va_A [(h0, .inr (8, [.null, .int 0]))] sz) := by
  refine x_metv (cc := cX9_init) (maxL := 1) (by decide) rfl (Nat.le_of_ble_eq_true rfl) ?_
  intro p e s m below meth c A H locs Q hx hb hml hown hts hr hlocks hmn hA hP hK hD hS ls hl hQ
  have hl : lv_has ls 1 [(0, .ref h0)] := hl
  have fl11 := hts (.fieldLink RX9 11 "SlopeRunner$Text" "bytes" "[B") (by decide +kernel)
  have inX9 : ∀ w ∈ wsX90, w ∈ v_c_Text_init := (fun w h => List.mem_cons_of_mem _ (List.mem_append_right _ h))
  refine lv_aload_n hx hb dX9_init_0 rfl (lv_at hl 0 rfl) ?_
  refine W.objInit hx hb hown (hts (.methodLink RX9 3 objectInit) (by decide +kernel)) (hts (.instanceMethod objectInit) (by decide +kernel)) (hts (.code objectInit ⟨#[0xb1]⟩ 1 none) (by decide +kernel)) rfl (by rw [hml]; exact hl.1) rfl dX9_init_1 (Nat.le_of_ble_eq_true rfl) (Nat.le_of_ble_eq_true rfl) ?_
  refine W.eq (g2 := F0 m 4 ls []) rfl ?_
  refine lv_aload_n hx hb dX9_init_4 rfl (lv_at hl 0 rfl) ?_
  refine lv_sipush (v := 700) hx hb dX9_init_5 (by decide) ?_
  refine x_newa (N' := 700) (a0 := (700, .inl (fun _ => 0))) (t0 := 0) (ty := .byte) hx hb (hts (.arrayClass .byte) (by decide +kernel)) rfl rfl hK hP hD hS hA (x_aB 700) (by decide) (by decide) (by decide) (Nat.le_of_ble_eq_true rfl) (Nat.le_of_ble_eq_true rfl) dX9_init_8 (fun q_1 H hP hD hS => ?_)
  have hP : va_P D vwCl [(h0, .inr (8, [.null, .int 0])), (q_1, .inl (y 0, 700, .inl (fun _ => 0)))] H := hP
  have hD : va_D A [(h0, .inr (8, [.null, .int 0])), (q_1, .inl (y 0, 700, .inl (fun _ => 0)))] := hD
  refine W.widen (k := 1) (n := 700) (Nat.le_of_ble_eq_true rfl) (Nat.le_of_ble_eq_true rfl) ?_
  refine va_putF (D := D) (ci := 8) (v := .ref q_1) (ty := (.array .byte)) (C := RX9) (T := TX9) (N := 2) hx hb hts inX9 tyX9 tyX9_ok nmX9 hown hK hP hD hS 0 rfl rfl 0 (by decide) fl11 (fun _ h9 => h9) rfl hmn rfl (by decide +kernel) rfl rfl (Nat.le_of_ble_eq_true rfl) dX9_init_10 (fun H locs hP hD hS => ?_)
  have hP : va_P D vwCl [(h0, .inr (8, [.ref q_1, .int 0])), (q_1, .inl (y 0, 700, .inl (fun _ => 0)))] H := hP
  have hD : va_D A [(h0, .inr (8, [.ref q_1, .int 0])), (q_1, .inl (y 0, 700, .inl (fun _ => 0)))] := hD
  exact x_vret (u := q_1) hx hb hr trivial hP hD hK hS [0, 1] rfl (by decide) dX9_init_13 hlocks hQ

