def v_x_m_again : List Cond := .code yX11_again cX11_again 3 (some .int) :: ([.fieldLink RX11 54 "SlopeRunner" "keepers" "LSlopeRunner$Keepers;"] ++ ((wsV RX11 244 RX3 yX3_roundsAgain v_c_roundsAgainK) ++ wsX110))
theorem g_x_m_again_0 : GoodIn v_x_m_again (wsV RX11 244 RX3 yX3_roundsAgain v_c_roundsAgainK) := goodIn_sub (fun w h => List.mem_cons_of_mem _ (List.mem_append_right _ (List.mem_append_left _ h))) (by decide +kernel)
set_option maxHeartbeats 4000000 in
set_option maxRecDepth 100000 in
theorem x_m_again (l : Launch) (D : va_G) (y : Nat → ClassId) (sz : Nat) (ad : Nat → Nat) (iv : Value) (pv : Value) (tv : Value) (σ : OS) (o1 o2 : Nat) (r1 r2 : Nat → Nat) (fi : Int32) (F1 F2 : Nat → Nat → Int32) (hki : KI fi F1 F2) (n k : Int32) : Met l yX11_again v_x_m_again ({ frames := 3, cells := 0, slots := 0, locals := 70 } : Room) (va_Pc [.ref (ad 0), .int n, .int k] (xPre D (xT y) (xwd y ad iv pv tv (KL y (ad 190) o1 o2 r1 r2 fi F1 F2) σ) sz)) (va_Qi (fun (r : Int32) (u : Int32 × (Nat → Nat → Int32) × (Nat → Nat → Int32)) => r = ga n k ∧ KI u.1 u.2.1 u.2.2) (fun (u : Int32 × (Nat → Nat → Int32) × (Nat → Nat → Int32)) => xB D (xT y) (va_A (xwd y ad iv pv tv (KL y (ad 190) o1 o2 r1 r2 fi F1 F2) σ) sz) (xwd y ad iv pv tv (KL y (ad 190) o1 o2 r1 r2 u.1 u.2.1 u.2.2) σ)) (va_A (xwd y ad iv pv tv (KL y (ad 190) o1 o2 r1 r2 fi F1 F2) σ) sz)) 0 0 (va_A (xwd y ad iv pv tv (KL y (ad 190) o1 o2 r1 r2 fi F1 F2) σ) sz) := by
  refine x_meti (cc := cX11_again) (maxL := 3) (by decide) rfl (Nat.le_of_ble_eq_true rfl) ?_
  intro p e s m below meth c A H locs Q hx hb hml hown hts hr hlocks hmn hA hP hK hD hS ls hl hQ
  have hl : lv_has ls 3 [(0, .ref (ad 0)), (1, .int n), (2, .int k)] := hl
  have fl54 := hts (.fieldLink RX11 54 "SlopeRunner" "keepers" "LSlopeRunner$Keepers;") (List.mem_of_getElem? (i := 1) rfl)
  have inX11 : ∀ w ∈ wsX110, w ∈ v_x_m_again := (fun w h => List.mem_cons_of_mem _ (List.mem_append_right _ (List.mem_append_right _ h)))
  refine lv_aload_n hx hb dX11_again_0 rfl (lv_at hl 0 rfl) ?_
  refine va_get (D := D) (ci := 10) (v := .ref (ad 190)) (C := RX11) (T := TX11) (N := 11) hx hb hts inX11 hown hK hP 0 xwd_o0 rfl 6 (by decide) fl54 (fun _ h9 => h9) rfl dX11_again_1 ?_
  refine lv_iload_n hx hb dX11_again_4 rfl (lv_at hl 1 rfl) ?_
  refine lv_iload_n hx hb dX11_again_5 rfl (lv_at hl 2 rfl) ?_
  have hPs : va_P D vwCl (KL y (ad 190) o1 o2 r1 r2 fi F1 F2) H := x_suP hP [52, 53, 54, 55, 56, 57, 58, 59, 60, 61, 62, 63, 64, 65, 66, 67, 68, 69, 70, 71, 72, 73, 74, 75, 76] rfl
  have hDs : va_D A (KL y (ad 190) o1 o2 r1 r2 fi F1 F2) := x_suD hD [52, 53, 54, 55, 56, 57, 58, 59, 60, 61, 62, 63, 64, 65, 66, 67, 68, 69, 70, 71, 72, 73, 74, 75, 76] rfl (by decide)
  refine x_calliT (b1 := fun (u : Int32 × (Nat → Nat → Int32) × (Nat → Nat → Int32)) => (xwd y ad iv pv tv (KL y (ad 190) o1 o2 r1 r2 u.1 u.2.1 u.2.2) σ)) [52, 53, 54, 55, 56, 57, 58, 59, 60, 61, 62, 63, 64, 65, 66, 67, 68, 69, 70, 71, 72, 73, 74, 75, 76] [none, none, none, none, none, none, none, none, none, none, none, none, none, none, none, none, none, none, none, none, none, none, none, none, none, none, none, none, none, none, none, none, none, none, none, none, none, none, none, none, none, none, none, none, none, none, none, none, none, none, none, none, some 0, some 1, some 2, some 3, some 4, some 5, some 6, some 7, some 8, some 9, some 10, some 11, some 12, some 13, some 14, some 15, some 16, some 17, some 18, some 19, some 20, some 21, some 22, some 23, some 24] 25 (va_runV (As := [.int n, .int k]) (rest := []) ⟨hx, hb, hml, hown, hts⟩ (c_roundsAgainK l D y H.size (ad 190) o1 o2 r1 r2 fi F1 F2 hki n k) (cwV 2 hts g_x_m_again_0 rfl rfl rfl (by decide +kernel) ⟨Nat.le_of_ble_eq_true rfl, Nat.le_of_ble_eq_true rfl⟩) (x_preV (q := (RX3, TX3, 3)) hK hPs hDs (ci := 2) (q0 := 0) rfl rfl) rfl rfl hl.1 rfl (lv_room (Nat.le_of_ble_eq_true rfl)) dX11_again_6 ⟨Nat.le_of_ble_eq_true rfl, Nat.le_of_ble_eq_true rfl⟩) hP hD hS hA rfl (fun _ => rfl) (fun _ => rfl) (fun _ => rfl) rfl (fun r_1 u H locs hw hP hD hS => ?_)
  obtain ⟨f1, f2, f3⟩ := u
  try dsimp only at hw
  have hP : va_P D vwCl (xwd y ad iv pv tv (KL y (ad 190) o1 o2 r1 r2 f1 f2 f3) σ) H := hP
  have hD : va_D A (xwd y ad iv pv tv (KL y (ad 190) o1 o2 r1 r2 f1 f2 f3) σ) := hD
  exact x_iretW (v := r_1) (u := (f1, f2, f3)) hx hb hr hQ (by (try dsimp only); exact hw) hP hD hK hS dX11_again_9 hlocks

def v_x_m_first : List Cond := .code yX11_first cX11_first 3 (some .int) :: ([.fieldLink RX11 54 "SlopeRunner" "keepers" "LSlopeRunner$Keepers;"] ++ ((wsV RX11 248 RX3 yX3_firstKept v_c_firstKeptK) ++ wsX110))
theorem g_x_m_first_0 : GoodIn v_x_m_first (wsV RX11 248 RX3 yX3_firstKept v_c_firstKeptK) := goodIn_sub (fun w h => List.mem_cons_of_mem _ (List.mem_append_right _ (List.mem_append_left _ h))) (by decide +kernel)
set_option maxHeartbeats 4000000 in
set_option maxRecDepth 100000 in
theorem x_m_first (l : Launch) (D : va_G) (y : Nat → ClassId) (sz : Nat) (ad : Nat → Nat) (iv : Value) (pv : Value) (tv : Value) (σ : OS) (o1 o2 : Nat) (r1 r2 : Nat → Nat) (fi : Int32) (F1 F2 : Nat → Nat → Int32) (hki : KI fi F1 F2) (n k : Int32) : Met l yX11_first v_x_m_first ({ frames := 3, cells := 0, slots := 0, locals := 70 } : Room) (va_Pc [.ref (ad 0), .int n, .int k] (xPre D (xT y) (xwd y ad iv pv tv (KL y (ad 190) o1 o2 r1 r2 fi F1 F2) σ) sz)) (va_Qi (fun (r : Int32) (u : Int32 × (Nat → Nat → Int32) × (Nat → Nat → Int32)) => r = gb n k ∧ KI u.1 u.2.1 u.2.2) (fun (u : Int32 × (Nat → Nat → Int32) × (Nat → Nat → Int32)) => xB D (xT y) (va_A (xwd y ad iv pv tv (KL y (ad 190) o1 o2 r1 r2 fi F1 F2) σ) sz) (xwd y ad iv pv tv (KL y (ad 190) o1 o2 r1 r2 u.1 u.2.1 u.2.2) σ)) (va_A (xwd y ad iv pv tv (KL y (ad 190) o1 o2 r1 r2 fi F1 F2) σ) sz)) 0 0 (va_A (xwd y ad iv pv tv (KL y (ad 190) o1 o2 r1 r2 fi F1 F2) σ) sz) := by
  refine x_meti (cc := cX11_first) (maxL := 3) (by decide) rfl (Nat.le_of_ble_eq_true rfl) ?_
  intro p e s m below meth c A H locs Q hx hb hml hown hts hr hlocks hmn hA hP hK hD hS ls hl hQ
  have hl : lv_has ls 3 [(0, .ref (ad 0)), (1, .int n), (2, .int k)] := hl
  have fl54 := hts (.fieldLink RX11 54 "SlopeRunner" "keepers" "LSlopeRunner$Keepers;") (List.mem_of_getElem? (i := 1) rfl)
  have inX11 : ∀ w ∈ wsX110, w ∈ v_x_m_first := (fun w h => List.mem_cons_of_mem _ (List.mem_append_right _ (List.mem_append_right _ h)))
  refine lv_aload_n hx hb dX11_first_0 rfl (lv_at hl 0 rfl) ?_
  refine va_get (D := D) (ci := 10) (v := .ref (ad 190)) (C := RX11) (T := TX11) (N := 11) hx hb hts inX11 hown hK hP 0 xwd_o0 rfl 6 (by decide) fl54 (fun _ h9 => h9) rfl dX11_first_1 ?_
  refine lv_iload_n hx hb dX11_first_4 rfl (lv_at hl 1 rfl) ?_
  refine lv_iload_n hx hb dX11_first_5 rfl (lv_at hl 2 rfl) ?_
  have hPs : va_P D vwCl (KL y (ad 190) o1 o2 r1 r2 fi F1 F2) H := x_suP hP [52, 53, 54, 55, 56, 57, 58, 59, 60, 61, 62, 63, 64, 65, 66, 67, 68, 69, 70, 71, 72, 73, 74, 75, 76] rfl
  have hDs : va_D A (KL y (ad 190) o1 o2 r1 r2 fi F1 F2) := x_suD hD [52, 53, 54, 55, 56, 57, 58, 59, 60, 61, 62, 63, 64, 65, 66, 67, 68, 69, 70, 71, 72, 73, 74, 75, 76] rfl (by decide)
  refine x_calliT (b1 := fun (u : Int32 × (Nat → Nat → Int32) × (Nat → Nat → Int32)) => (xwd y ad iv pv tv (KL y (ad 190) o1 o2 r1 r2 u.1 u.2.1 u.2.2) σ)) [52, 53, 54, 55, 56, 57, 58, 59, 60, 61, 62, 63, 64, 65, 66, 67, 68, 69, 70, 71, 72, 73, 74, 75, 76] [none, none, none, none, none, none, none, none, none, none, none, none, none, none, none, none, none, none, none, none, none, none, none, none, none, none, none, none, none, none, none, none, none, none, none, none, none, none, none, none, none, none, none, none, none, none, none, none, none, none, none, none, some 0, some 1, some 2, some 3, some 4, some 5, some 6, some 7, some 8, some 9, some 10, some 11, some 12, some 13, some 14, some 15, some 16, some 17, some 18, some 19, some 20, some 21, some 22, some 23, some 24] 25 (va_runV (As := [.int n, .int k]) (rest := []) ⟨hx, hb, hml, hown, hts⟩ (c_firstKeptK l D y H.size (ad 190) o1 o2 r1 r2 fi F1 F2 hki n k) (cwV 2 hts g_x_m_first_0 rfl rfl rfl (by decide +kernel) ⟨Nat.le_of_ble_eq_true rfl, Nat.le_of_ble_eq_true rfl⟩) (x_preV (q := (RX3, TX3, 3)) hK hPs hDs (ci := 2) (q0 := 0) rfl rfl) rfl rfl hl.1 rfl (lv_room (Nat.le_of_ble_eq_true rfl)) dX11_first_6 ⟨Nat.le_of_ble_eq_true rfl, Nat.le_of_ble_eq_true rfl⟩) hP hD hS hA rfl (fun _ => rfl) (fun _ => rfl) (fun _ => rfl) rfl (fun r_1 u H locs hw hP hD hS => ?_)
  obtain ⟨f1, f2, f3⟩ := u
  try dsimp only at hw
  have hP : va_P D vwCl (xwd y ad iv pv tv (KL y (ad 190) o1 o2 r1 r2 f1 f2 f3) σ) H := hP
  have hD : va_D A (xwd y ad iv pv tv (KL y (ad 190) o1 o2 r1 r2 f1 f2 f3) σ) := hD
  exact x_iretW (v := r_1) (u := (f1, f2, f3)) hx hb hr hQ (by (try dsimp only); exact hw) hP hD hK hS dX11_first_9 hlocks

