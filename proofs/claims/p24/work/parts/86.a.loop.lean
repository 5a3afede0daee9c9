set_option maxHeartbeats 4000000 in
set_option maxRecDepth 100000 in
theorem law_loop {D : va_G} {y : Nat → ClassId} {p : Program} {e : Env} {s : State} {m : MethodId} {below : List Frame} {meth : Method} {c : Code} (l : Launch) {b L : Nat} {xs : Nat → Int32} {A : Nat → Prop} {h0 h1 : Nat} (C0 : lw_At p s m meth c b L xs) (hL : L ≤ 3072) (hAl : ∀ q, A q → s.heap.size ≤ q) (hbA : ¬ A b) (hA : ∀ q, s.heap.size ≤ q → A q) (hK : va_K D vwCl (xT y) s) : ∀ (n : Nat) (i : Int32) (t : Int) (X Y : va_W) (H : Heap) (locs : List Loc) (ls : Array Slot), 0 ≤ i.toInt → i.toInt ≤ 3072 → (L : Int) < i.toInt + 6 * (n : Int) → CX y h0 t X → RX y h1 t Y → va_P D vwCl (X ++ Y) H → va_D A (X ++ Y) → va_S A s.heap H locs → lv_has ls 4 [(3, .int i), (2, .ref h1), (1, .ref h0), (0, .ref b)] → W p l e room_1 s m #[Value.ref b] below meth c H locs 135 68060 (lw_Z below #[Value.ref b] s) (F0 m 18 ls []) := by
  obtain ⟨hx, hb, hr, hml, hown, hts, hX, hbl, hlocks, hgv⟩ := id C0
  have eL := x_sl hL
  intro n
  induction n with
  | zero =>
    intro i t X Y H locs ls hi0 hi1 hn hCX hRX hP hD hS hl
    refine lv_iload_n hx hb dL_law_18 rfl (lv_at hl 0 rfl) ?_
    refine lv_aload_n hx hb dL_law_19 rfl (lv_at hl 3 rfl) ?_
    refine va_slen hx hb hX hbl hbA hS dL_law_20 ?_
    refine lv_bipush (v := 6) hx hb dL_law_21 (by decide) ?_
    refine lv_isub hx hb dL_law_23 ?_
    refine lv_icmp_gt (tgt := 957) hx hb dL_law_24 (by decide) (fun c9 => ?_) (fun c9 => ?_)
    · refine lv_iconst (v := 1) hx hb dL_law_957 (by decide) ?_
      refine va_forget (fun q hq => hAl _ (hS.2.2 q hq)) ?_
      refine W.widen (k := 600000) (n := 7302250) (Nat.le_of_ble_eq_true rfl) (Nat.le_of_ble_eq_true rfl) ?_
      exact lw_ret hx hb hr hlocks dL_law_958
    · exact absurd (x_lt.mpr (by rw [eL]; omega)) c9
  | succ n ih =>
    intro i t X Y H locs ls hi0 hi1 hn hCX hRX hP hD hS hl
    refine lv_iload_n hx hb dL_law_18 rfl (lv_at hl 0 rfl) ?_
    refine lv_aload_n hx hb dL_law_19 rfl (lv_at hl 3 rfl) ?_
    refine va_slen hx hb hX hbl hbA hS dL_law_20 ?_
    refine lv_bipush (v := 6) hx hb dL_law_21 (by decide) ?_
    refine lv_isub hx hb dL_law_23 ?_
    refine lv_icmp_gt (tgt := 957) hx hb dL_law_24 (by decide) (fun c9 => ?_) (fun c9 => ?_)
    · refine lv_iconst (v := 1) hx hb dL_law_957 (by decide) ?_
      refine va_forget (fun q hq => hAl _ (hS.2.2 q hq)) ?_
      refine W.widen (k := 600000) (n := 7302250) (Nat.le_of_ble_eq_true rfl) (Nat.le_of_ble_eq_true rfl) ?_
      exact lw_ret hx hb hr hlocks dL_law_958
    · have c9 : ¬ ((L : Int) - 6 < i.toInt) := fun h => c9 (x_lt.mpr (by rw [eL]; exact h))
      have hi2 : i.toInt + 6 ≤ (L : Int) := by omega
      have e6 : (i + 6).toInt = i.toInt + 6 := x_add (x := i) (y := 6) (z := i + 6) rfl (by have e : (6 : Int32).toInt = 6 := rfl; omega) (by have e : (6 : Int32).toInt = 6 := rfl; omega)
      have kk : ∀ (t : Int) (X Y : va_W) (H : Heap) (locs : List Loc) (ls : Array Slot), CX y h0 t X → RX y h1 t Y → va_P D vwCl (X ++ Y) H → va_D A (X ++ Y) → va_S A s.heap H locs → lv_has ls 4 [(3, .int i), (2, .ref h1), (1, .ref h0), (0, .ref b)] → W p l e room_1 s m #[Value.ref b] below meth c H locs 135 68060 (lw_Z below #[Value.ref b] s) (F0 m 951 ls []) := by
        intro t X Y H locs ls hCX hRX hP hD hS hl
        refine lv_iinc (v := i + 6) (lv' := [(3, .int (i + 6)), (2, .ref h1), (1, .ref h0), (0, .ref b)]) hx hb dL_law_951 hl (k := 0) rfl rfl (by decide) rfl (fun ls hl => ?_)
        refine lv_goto (tgt := 18) hx hb dL_law_954 (by decide) ?_
        exact ih (i + 6) t X Y H locs ls (by omega) (by omega) (by omega) hCX hRX hP hD hS hl
      refine lv_aload_n hx hb dL_law_27 rfl (lv_at hl 3 rfl) ?_
      refine lv_iload_n hx hb dL_law_28 rfl (lv_at hl 0 rfl) ?_
      refine va_sld hx hb hX hbl hbA hS (x_in hi0 (by omega)) dL_law_29 ?_
      refine lv_bipush (v := 31) hx hb dL_law_30 (by decide) ?_
      refine lv_iand hx hb dL_law_32 ?_
      refine lv_topi (fun i3 e3 => ?_)
      rcases (show i3 = 0 ∨ i3 = 1 ∨ i3 = 2 ∨ i3 = 3 ∨ i3 = 4 ∨ i3 = 5 ∨ i3 = 6 ∨ i3 = 7 ∨ i3 = 8 ∨ i3 = 9 ∨ i3 = 10 ∨ i3 = 11 ∨ i3 = 12 ∨ i3 = 13 ∨ i3 = 14 ∨ i3 = 15 ∨ i3 = 16 ∨ i3 = 17 ∨ i3 = 18 ∨ i3 = 19 ∨ i3 = 20 ∨ i3 = 21 ∨ i3 = 22 ∨ (i3.toInt < 0 ∨ 22 < i3.toInt) by simp only [x_eq, Int32.reduceToInt]; omega) with rfl | rfl | rfl | rfl | rfl | rfl | rfl | rfl | rfl | rfl | rfl | rfl | rfl | rfl | rfl | rfl | rfl | rfl | rfl | rfl | rfl | rfl | rfl | g4
      · refine lv_tableIn (tgt := 140) hx hb dL_law_33 (by decide) (by decide) rfl (by decide) ?_
        exact law_case_0 l C0 hL hAl hbA hA hK hi0 hi2 hCX hRX hP hD hS hl kk
      · refine lv_tableIn (tgt := 203) hx hb dL_law_33 (by decide) (by decide) rfl (by decide) ?_
        exact law_case_1 l C0 hL hAl hbA hA hK hi0 hi2 hCX hRX hP hD hS hl kk
      · refine lv_tableIn (tgt := 226) hx hb dL_law_33 (by decide) (by decide) rfl (by decide) ?_
        exact law_case_2 l C0 hL hAl hbA hA hK hi0 hi2 hCX hRX hP hD hS hl kk
      · refine lv_tableIn (tgt := 239) hx hb dL_law_33 (by decide) (by decide) rfl (by decide) ?_
        exact law_case_3 l C0 hL hAl hbA hA hK hi0 hi2 hCX hRX hP hD hS hl kk
      · refine lv_tableIn (tgt := 262) hx hb dL_law_33 (by decide) (by decide) rfl (by decide) ?_
        exact law_case_4 l C0 hL hAl hbA hA hK hi0 hi2 hCX hRX hP hD hS hl kk
      · refine lv_tableIn (tgt := 285) hx hb dL_law_33 (by decide) (by decide) rfl (by decide) ?_
        exact law_case_5 l C0 hL hAl hbA hA hK hi0 hi2 hCX hRX hP hD hS hl kk
      · refine lv_tableIn (tgt := 328) hx hb dL_law_33 (by decide) (by decide) rfl (by decide) ?_
        exact law_case_6 l C0 hL hAl hbA hA hK hi0 hi2 hCX hRX hP hD hS hl kk
      · refine lv_tableIn (tgt := 341) hx hb dL_law_33 (by decide) (by decide) rfl (by decide) ?_
        exact law_case_7 l C0 hL hAl hbA hA hK hi0 hi2 hCX hRX hP hD hS hl kk
      · refine lv_tableIn (tgt := 354) hx hb dL_law_33 (by decide) (by decide) rfl (by decide) ?_
        exact law_case_8 l C0 hL hAl hbA hA hK hi0 hi2 hCX hRX hP hD hS hl kk
      · refine lv_tableIn (tgt := 403) hx hb dL_law_33 (by decide) (by decide) rfl (by decide) ?_
        exact law_case_9 l C0 hL hAl hbA hA hK hi0 hi2 hCX hRX hP hD hS hl kk
      · refine lv_tableIn (tgt := 416) hx hb dL_law_33 (by decide) (by decide) rfl (by decide) ?_
        exact law_case_10 l C0 hL hAl hbA hA hK hi0 hi2 hCX hRX hP hD hS hl kk
      · refine lv_tableIn (tgt := 439) hx hb dL_law_33 (by decide) (by decide) rfl (by decide) ?_
        exact law_case_11 l C0 hL hAl hbA hA hK hi0 hi2 hCX hRX hP hD hS hl kk
      · refine lv_tableIn (tgt := 488) hx hb dL_law_33 (by decide) (by decide) rfl (by decide) ?_
        exact law_case_12 l C0 hL hAl hbA hA hK hi0 hi2 hCX hRX hP hD hS hl kk
      · refine lv_tableIn (tgt := 527) hx hb dL_law_33 (by decide) (by decide) rfl (by decide) ?_
        exact law_case_13 l C0 hL hAl hbA hA hK hi0 hi2 hCX hRX hP hD hS hl kk
      · refine lv_tableIn (tgt := 586) hx hb dL_law_33 (by decide) (by decide) rfl (by decide) ?_
        exact law_case_14 l C0 hL hAl hbA hA hK hi0 hi2 hCX hRX hP hD hS hl kk
      · refine lv_tableIn (tgt := 645) hx hb dL_law_33 (by decide) (by decide) rfl (by decide) ?_
        exact law_case_15 l C0 hL hAl hbA hA hK hi0 hi2 hCX hRX hP hD hS hl kk
      · refine lv_tableIn (tgt := 714) hx hb dL_law_33 (by decide) (by decide) rfl (by decide) ?_
        exact law_case_16 l C0 hL hAl hbA hA hK hi0 hi2 hCX hRX hP hD hS hl kk
      · refine lv_tableIn (tgt := 793) hx hb dL_law_33 (by decide) (by decide) rfl (by decide) ?_
        exact law_case_17 l C0 hL hAl hbA hA hK hi0 hi2 hCX hRX hP hD hS hl kk
      · refine lv_tableIn (tgt := 816) hx hb dL_law_33 (by decide) (by decide) rfl (by decide) ?_
        exact law_case_18 l C0 hL hAl hbA hA hK hi0 hi2 hCX hRX hP hD hS hl kk
      · refine lv_tableIn (tgt := 849) hx hb dL_law_33 (by decide) (by decide) rfl (by decide) ?_
        exact law_case_19 l C0 hL hAl hbA hA hK hi0 hi2 hCX hRX hP hD hS hl kk
      · refine lv_tableIn (tgt := 862) hx hb dL_law_33 (by decide) (by decide) rfl (by decide) ?_
        exact law_case_20 l C0 hL hAl hbA hA hK hi0 hi2 hCX hRX hP hD hS hl kk
      · refine lv_tableIn (tgt := 885) hx hb dL_law_33 (by decide) (by decide) rfl (by decide) ?_
        exact law_case_21 l C0 hL hAl hbA hA hK hi0 hi2 hCX hRX hP hD hS hl kk
      · refine lv_tableIn (tgt := 918) hx hb dL_law_33 (by decide) (by decide) rfl (by decide) ?_
        exact law_case_22 l C0 hL hAl hbA hA hK hi0 hi2 hCX hRX hP hD hS hl kk
      · refine lv_tableOut (tgt := 951) hx hb dL_law_33 g4 (by decide) ?_
        exact kk t X Y H locs ls hCX hRX hP hD hS hl
