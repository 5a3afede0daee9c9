/-- the keepers' tables: not yet filled, or filled -/
def KI (fi : Int32) (F1 F2 : Nat → Nat → Int32) : Prop := (fi = 0 ∧ ∀ a : Nat, 2 ≤ a → a ≤ 10 → F1 a 1 = 0) ∨ (fi = 1 ∧ (∀ a b : Nat, 1 ≤ a → a ≤ 10 → 1 ≤ b → b ≤ 100 → F1 a b = nI (gg a b)) ∧ (∀ a b : Nat, 2 ≤ a → a ≤ 10 → 2 ≤ b → b ≤ 100 → F2 a b = nI (gf a b)))
/-- the keepers' cells -/
def KL (y : Nat → ClassId) (h0 o1 o2 : Nat) (r1 r2 : Nat → Nat) (fi : Int32) (F1 F2 : Nat → Nat → Int32) : va_W := [(h0, .inr (2, [.ref o1, .ref o2, .int fi])), (o1, .inl (y 5, 11, .inr (.inr (.inr (.inr (xG r1)))))), (o2, .inl (y 5, 11, .inr (.inr (.inr (.inr (xG r2))))))] ++ (xR y r1 F1 ++ xR y r2 F2)
def v_c_fillK : List Cond := .code yX3_fill cX3_fill 3 none :: ([.fieldLink RX3 26 "SlopeRunner$Keepers" "filled" "Z", .fieldLink RX3 13 "SlopeRunner$Keepers" "least" "[[I"] ++ ((wsV RX3 30 RX3 yX3_fillOne v_c_fillOne) ++ wsX30))
theorem g_c_fillK_0 : GoodIn v_c_fillK (wsV RX3 30 RX3 yX3_fillOne v_c_fillOne) := goodIn_sub (fun w h => List.mem_cons_of_mem _ (List.mem_append_right _ (List.mem_append_left _ h))) (by decide +kernel)
set_option maxHeartbeats 4000000 in
set_option maxRecDepth 100000 in
theorem c_fillK (l : Launch) (D : va_G) (y : Nat → ClassId) (sz : Nat) (h0 o1 o2 : Nat) (r1 r2 : Nat → Nat) (fi : Int32) (F1 F2 : Nat → Nat → Int32) (hki : KI fi F1 F2)  : Met l yX3_fill v_c_fillK ({ frames := 1, cells := 0, slots := 0, locals := 24 } : Room) (va_Pc [.ref h0] (xPre D (xT y) ([(h0, .inr (2, [.ref o1, .ref o2, .int fi])), (o1, .inl (y 5, 11, .inr (.inr (.inr (.inr (xG r1)))))), (o2, .inl (y 5, 11, .inr (.inr (.inr (.inr (xG r2))))))] ++ (xR y r1 F1 ++ xR y r2 F2)) sz)) (va_Qv (fun (u : (Nat → Nat → Int32) × (Nat → Nat → Int32)) => (∀ a b : Nat, 1 ≤ a → a ≤ 10 → 1 ≤ b → b ≤ 100 → u.1 a b = nI (gg a b)) ∧ (∀ a b : Nat, 2 ≤ a → a ≤ 10 → 2 ≤ b → b ≤ 100 → u.2 a b = nI (gf a b))) (fun (u : (Nat → Nat → Int32) × (Nat → Nat → Int32)) => xB D (xT y) (va_A ([(h0, .inr (2, [.ref o1, .ref o2, .int fi])), (o1, .inl (y 5, 11, .inr (.inr (.inr (.inr (xG r1)))))), (o2, .inl (y 5, 11, .inr (.inr (.inr (.inr (xG r2))))))] ++ (xR y r1 F1 ++ xR y r2 F2)) sz) ([(h0, .inr (2, [.ref o1, .ref o2, .int 1])), (o1, .inl (y 5, 11, .inr (.inr (.inr (.inr (xG r1)))))), (o2, .inl (y 5, 11, .inr (.inr (.inr (.inr (xG r2))))))] ++ (xR y r1 u.1 ++ xR y r2 u.2))) (va_A ([(h0, .inr (2, [.ref o1, .ref o2, .int fi])), (o1, .inl (y 5, 11, .inr (.inr (.inr (.inr (xG r1)))))), (o2, .inl (y 5, 11, .inr (.inr (.inr (.inr (xG r2))))))] ++ (xR y r1 F1 ++ xR y r2 F2)) sz)) 0 0 (va_A ([(h0, .inr (2, [.ref o1, .ref o2, .int fi])), (o1, .inl (y 5, 11, .inr (.inr (.inr (.inr (xG r1)))))), (o2, .inl (y 5, 11, .inr (.inr (.inr (.inr (xG r2))))))] ++ (xR y r1 F1 ++ xR y r2 F2)) sz) := by
  refine x_metv (cc := cX3_fill) (maxL := 3) (by decide) rfl (Nat.le_of_ble_eq_true rfl) ?_
  intro p e s m below meth c A H locs Q hx hb hml hown hts hr hlocks hmn hA hP hK hD hS ls hl hQ
  have hl : lv_has ls 3 [(0, .ref h0)] := hl
  have fl26 := hts (.fieldLink RX3 26 "SlopeRunner$Keepers" "filled" "Z") (List.mem_of_getElem? (i := 1) rfl)
  have inX3 : ∀ w ∈ wsX30, w ∈ v_c_fillK := (fun w h => List.mem_cons_of_mem _ (List.mem_append_right _ (List.mem_append_right _ h)))
  have fl13 := hts (.fieldLink RX3 13 "SlopeRunner$Keepers" "least" "[[I") (List.mem_of_getElem? (i := 2) rfl)
  rcases hki with ⟨rfl, hz⟩ | ⟨rfl, hB0, hC0⟩
  · skip
    refine lv_aload_n hx hb dX3_fill_0 rfl (lv_at hl 0 rfl) ?_
    refine va_get (D := D) (ci := 2) (v := .int 0) (C := RX3) (T := TX3) (N := 3) hx hb hts inX3 hown hK hP 0 rfl rfl 2 (by decide) fl26 (fun _ h9 => h9) rfl dX3_fill_1 ?_
    refine lv_if_eq (tgt := 8) hx hb dX3_fill_4 (by decide) (fun c_1 => ?_) (fun c_1 => ?_)
    · refine lv_iconst (v := 1) hx hb dX3_fill_8 (by decide) ?_
      refine lv_istore_n (lv' := [(1, .int 1), (0, .ref h0)]) hx hb dX3_fill_9 rfl hl (by decide) rfl (fun ls hl => ?_)
      have loop1 : ∀ (fu : Nat) (j : Nat) (G1 : (Nat → Nat → Int32)) (H : Heap) (locs : List Loc) (ls : Array Slot), (1 ≤ j) → (j ≤ 101) → (∀ b : Nat, 1 ≤ b → b < j → G1 1 b = nI (gg 1 b)) → (∀ a : Nat, 2 ≤ a → a ≤ 10 → G1 a 1 = 0) → ((101 : Int) - j < (fu : Int)) → va_P D vwCl ([(h0, .inr (2, [.ref o1, .ref o2, .int 0])), (o1, .inl (y 5, 11, .inr (.inr (.inr (.inr (xG r1)))))), (o2, .inl (y 5, 11, .inr (.inr (.inr (.inr (xG r2))))))] ++ (xR y r1 G1 ++ xR y r2 F2)) H → va_D A ([(h0, .inr (2, [.ref o1, .ref o2, .int 0])), (o1, .inl (y 5, 11, .inr (.inr (.inr (.inr (xG r1)))))), (o2, .inl (y 5, 11, .inr (.inr (.inr (.inr (xG r2))))))] ++ (xR y r1 G1 ++ xR y r2 F2)) → va_S A s.heap H locs → lv_has ls 3 [(1, .int (nI j)), (0, .ref h0)] → W p l e ({ frames := 1, cells := 0, slots := 0, locals := 24 } : Room) s m ([.ref h0] : List Value).toArray below meth c H locs 0 0 Q (F0 m 10 ls []) := by
        intro fu
        induction fu with
        | zero =>
          intro j G1 H locs ls hj1 hj2 hAA hZ hm
          exact absurd hm (by omega)
        | succ fu ih_loop1 =>
          intro j G1 H locs ls hj1 hj2 hAA hZ hm hP hD hS hl
          refine lv_iload_n hx hb dX3_fill_10 rfl (lv_at hl 0 rfl) ?_
          refine lv_bipush (v := 100) hx hb dX3_fill_11 (by decide) ?_
          refine lv_icmp_gt (tgt := 37) hx hb dX3_fill_13 (by decide) (fun c_2 => ?_) (fun c_2 => ?_)
          · have hj3 : 100 < j := (nI_ltI (a := 100) (by omega) (by omega)).mp c_2
            refine lv_iconst (v := 2) hx hb dX3_fill_37 (by decide) ?_
            refine lv_istore_n (lv' := [(1, .int 2), (0, .ref h0)]) hx hb dX3_fill_38 rfl hl (by decide) rfl (fun ls hl => ?_)
            have loop2 : ∀ (fu : Nat) (q : Nat) (P1 : (Nat → Nat → Int32)) (P2 : (Nat → Nat → Int32)) (H : Heap) (locs : List Loc) (ls : Array Slot), (2 ≤ q) → (q ≤ 11) → (∀ a b : Nat, 1 ≤ a → a < q → 1 ≤ b → b ≤ 100 → P1 a b = nI (gg a b)) → (∀ a b : Nat, 2 ≤ a → a < q → 2 ≤ b → b ≤ 100 → P2 a b = nI (gf a b)) → (∀ a : Nat, 2 ≤ a → a ≤ 10 → P1 a 1 = 0) → ((11 : Int) - q < (fu : Int)) → va_P D vwCl ([(h0, .inr (2, [.ref o1, .ref o2, .int 0])), (o1, .inl (y 5, 11, .inr (.inr (.inr (.inr (xG r1)))))), (o2, .inl (y 5, 11, .inr (.inr (.inr (.inr (xG r2))))))] ++ (xR y r1 P1 ++ xR y r2 P2)) H → va_D A ([(h0, .inr (2, [.ref o1, .ref o2, .int 0])), (o1, .inl (y 5, 11, .inr (.inr (.inr (.inr (xG r1)))))), (o2, .inl (y 5, 11, .inr (.inr (.inr (.inr (xG r2))))))] ++ (xR y r1 P1 ++ xR y r2 P2)) → va_S A s.heap H locs → lv_has ls 3 [(1, .int (nI q)), (0, .ref h0)] → W p l e ({ frames := 1, cells := 0, slots := 0, locals := 24 } : Room) s m ([.ref h0] : List Value).toArray below meth c H locs 0 0 Q (F0 m 39 ls []) := by
              intro fu
              induction fu with
              | zero =>
                intro q P1 P2 H locs ls hK1 hK2 hB hC hZ2 hm
                exact absurd hm (by omega)
              | succ fu ih_loop2 =>
                intro q P1 P2 H locs ls hK1 hK2 hB hC hZ2 hm hP hD hS hl
                refine lv_iload_n hx hb dX3_fill_39 rfl (lv_at hl 0 rfl) ?_
                refine lv_bipush (v := 10) hx hb dX3_fill_40 (by decide) ?_
                refine lv_icmp_gt (tgt := 71) hx hb dX3_fill_42 (by decide) (fun c_3 => ?_) (fun c_3 => ?_)
                · have hq3 : 10 < q := (nI_ltI (a := 10) (by omega) (by omega)).mp c_3
                  refine lv_aload_n hx hb dX3_fill_71 rfl (lv_at hl 1 rfl) ?_
                  refine lv_iconst (v := 1) hx hb dX3_fill_72 (by decide) ?_
                  refine va_put (D := D) (ci := 2) (v := .int 1) (ty := .boolean) (C := RX3) (T := TX3) (N := 3) hx hb hts inX3 tyX3 tyX3_ok nmX3 hown hK hP hD hS 0 rfl rfl 2 (by decide) fl26 (fun _ h9 => h9) rfl (by decide +kernel) rfl rfl (Nat.le_of_ble_eq_true rfl) dX3_fill_73 (fun H locs hP hD hS => ?_)
                  have hP : va_P D vwCl ([(h0, .inr (2, [.ref o1, .ref o2, .int 1])), (o1, .inl (y 5, 11, .inr (.inr (.inr (.inr (xG r1)))))), (o2, .inl (y 5, 11, .inr (.inr (.inr (.inr (xG r2))))))] ++ (xR y r1 P1 ++ xR y r2 P2)) H := hP
                  have hD : va_D A ([(h0, .inr (2, [.ref o1, .ref o2, .int 1])), (o1, .inl (y 5, 11, .inr (.inr (.inr (.inr (xG r1)))))), (o2, .inl (y 5, 11, .inr (.inr (.inr (.inr (xG r2))))))] ++ (xR y r1 P1 ++ xR y r2 P2)) := hD
                  exact x_vret (u := (P1, P2)) hx hb hr ⟨fun a b h1 h2 h3 h4 => hB a b h1 (by omega) h3 h4, fun a b h1 h2 h3 h4 => hC a b h1 (by omega) h3 h4⟩ hP hD hK hS [0, 1, 2, 3, 4, 5, 6, 7, 8, 9, 10, 11, 12, 13, 14, 15, 16, 17, 18, 19, 20, 21, 22, 23, 24] rfl (by decide) dX3_fill_76 hlocks hQ
                · have hq3 : q ≤ 10 := by have h := mt (nI_ltI (a := 10) (by omega) (by omega)).mpr c_3; omega
                  refine lv_iconst (v := 2) hx hb dX3_fill_45 (by decide) ?_
                  refine lv_istore_n (lv' := [(2, .int 2), (1, .int (nI q)), (0, .ref h0)]) hx hb dX3_fill_46 rfl hl (by decide) rfl (fun ls hl => ?_)
                  have loop3 : ∀ (fu : Nat) (t : Nat) (R1 : (Nat → Nat → Int32)) (R2 : (Nat → Nat → Int32)) (H : Heap) (locs : List Loc) (ls : Array Slot), (2 ≤ t) → (t ≤ 101) → (∀ b : Nat, 1 ≤ b → b < t → R1 q b = nI (gg q b)) → (∀ b : Nat, 2 ≤ b → b < t → R2 q b = nI (gf q b)) → (∀ a b : Nat, 1 ≤ a → a < q → 1 ≤ b → b ≤ 100 → R1 a b = nI (gg a b)) → (∀ a b : Nat, 2 ≤ a → a < q → 2 ≤ b → b ≤ 100 → R2 a b = nI (gf a b)) → (∀ a : Nat, 2 ≤ a → a ≤ 10 → R1 a 1 = 0) → ((101 : Int) - t < (fu : Int)) → va_P D vwCl ([(h0, .inr (2, [.ref o1, .ref o2, .int 0])), (o1, .inl (y 5, 11, .inr (.inr (.inr (.inr (xG r1)))))), (o2, .inl (y 5, 11, .inr (.inr (.inr (.inr (xG r2))))))] ++ (xR y r1 R1 ++ xR y r2 R2)) H → va_D A ([(h0, .inr (2, [.ref o1, .ref o2, .int 0])), (o1, .inl (y 5, 11, .inr (.inr (.inr (.inr (xG r1)))))), (o2, .inl (y 5, 11, .inr (.inr (.inr (.inr (xG r2))))))] ++ (xR y r1 R1 ++ xR y r2 R2)) → va_S A s.heap H locs → lv_has ls 3 [(2, .int (nI t)), (1, .int (nI q)), (0, .ref h0)] → W p l e ({ frames := 1, cells := 0, slots := 0, locals := 24 } : Room) s m ([.ref h0] : List Value).toArray below meth c H locs 0 0 Q (F0 m 47 ls []) := by
                    intro fu
                    induction fu with
                    | zero =>
                      intro t R1 R2 H locs ls ht1 ht2 hI hJ hB3 hC3 hZ3 hm
                      exact absurd hm (by omega)
                    | succ fu ih_loop3 =>
                      intro t R1 R2 H locs ls ht1 ht2 hI hJ hB3 hC3 hZ3 hm hP hD hS hl
                      refine lv_iload_n hx hb dX3_fill_47 rfl (lv_at hl 0 rfl) ?_
                      refine lv_bipush (v := 100) hx hb dX3_fill_48 (by decide) ?_
                      refine lv_icmp_gt (tgt := 65) hx hb dX3_fill_50 (by decide) (fun c_4 => ?_) (fun c_4 => ?_)
                      · have ht3 : 100 < t := (nI_ltI (a := 100) (by omega) (by omega)).mp c_4
                        refine lv_iinc (v := (nI (q + 1))) (lv' := [(1, .int (nI (q + 1))), (2, .int (nI t)), (0, .ref h0)]) hx hb dX3_fill_65 hl (k := 1) rfl (nI_1 q) (by decide) rfl (fun ls hl => ?_)
                        refine lv_goto (tgt := 39) hx hb dX3_fill_68 (by decide) ?_
                        exact ih_loop2 (q + 1) R1 R2 H locs ls (by omega) (by omega) (fun a b h1 h2 h3 h4 => if h : a = q then (by rw [h]; exact hI b h3 (by omega)) else hB3 a b h1 (by omega) h3 h4) (fun a b h1 h2 h3 h4 => if h : a = q then (by rw [h]; exact hJ b h3 (by omega)) else hC3 a b h1 (by omega) h3 h4) hZ3 (by (try dsimp only); (try simp only [lg_cmp_lt, lg_cmp_le, lg_cmp_gt, lg_cmp_ge] at *); (try simp only [x_lt, x_le, Int32.reduceToInt, x_ltL, x_leL, Int64.reduceToInt] at *); omega) (x_subP hP [0, 1, 2, 3, 4, 5, 6, 7, 8, 9, 10, 11, 12, 13, 14, 15, 16, 17, 18, 19, 20, 21, 22, 23, 24] rfl) (x_subD hD [0, 1, 2, 3, 4, 5, 6, 7, 8, 9, 10, 11, 12, 13, 14, 15, 16, 17, 18, 19, 20, 21, 22, 23, 24] rfl (by decide)) hS (lv_sub hl [0, 2] rfl)
                      · have ht3 : t ≤ 100 := by have h := mt (nI_ltI (a := 100) (by omega) (by omega)).mpr c_4; omega
                        refine lv_aload_n hx hb dX3_fill_53 rfl (lv_at hl 2 rfl) ?_
                        refine lv_iload_n hx hb dX3_fill_54 rfl (lv_at hl 0 rfl) ?_
                        refine lv_iload_n hx hb dX3_fill_55 rfl (lv_at hl 1 rfl) ?_
                        refine x_callv (w1 := fun (u : (Nat → Nat → Int32) × (Nat → Nat → Int32)) => ([(h0, .inr (2, [.ref o1, .ref o2, .int 0])), (o1, .inl (y 5, 11, .inr (.inr (.inr (.inr (xG r1)))))), (o2, .inl (y 5, 11, .inr (.inr (.inr (.inr (xG r2))))))] ++ (xR y r1 u.1 ++ xR y r2 u.2))) (wr := []) (ws' := fun (u : (Nat → Nat → Int32) × (Nat → Nat → Int32)) => ([(h0, .inr (2, [.ref o1, .ref o2, .int 0])), (o1, .inl (y 5, 11, .inr (.inr (.inr (.inr (xG r1)))))), (o2, .inl (y 5, 11, .inr (.inr (.inr (.inr (xG r2))))))] ++ (xR y r1 u.1 ++ xR y r2 u.2))) (va_runV (As := [.int (nI t), .int (nI q)]) (rest := []) ⟨hx, hb, hml, hown, hts⟩ (c_fillOne l D y H.size h0 o1 o2 r1 r2 0 R1 R2 t q (by omega) (by omega) (by omega) (by omega) (fun m h1 h2 => hI m h1 h2) (fun m h1 h2 => hB3 (q - 1) m (by omega) (by omega) h1 h2)) (cwV 2 hts g_c_fillK_0 rfl rfl rfl (by decide +kernel) ⟨Nat.le_of_ble_eq_true rfl, Nat.le_of_ble_eq_true rfl⟩) (x_preV (q := (RX3, TX3, 3)) hK (x_subP hP [0, 1, 2, 3, 4, 5, 6, 7, 8, 9, 10, 11, 12, 13, 14, 15, 16, 17, 18, 19, 20, 21, 22, 23, 24] rfl) (x_subD hD [0, 1, 2, 3, 4, 5, 6, 7, 8, 9, 10, 11, 12, 13, 14, 15, 16, 17, 18, 19, 20, 21, 22, 23, 24] rfl (by decide)) (ci := 2) (q0 := 0) rfl rfl) rfl rfl hl.1 rfl (lv_room (Nat.le_of_ble_eq_true rfl)) dX3_fill_56 ⟨Nat.le_of_ble_eq_true rfl, Nat.le_of_ble_eq_true rfl⟩) hP hD hS hA [0, 1, 2, 3, 4, 5, 6, 7, 8, 9, 10, 11, 12, 13, 14, 15, 16, 17, 18, 19, 20, 21, 22, 23, 24] [] rfl rfl (by decide) (by decide) [0, 1, 2, 3, 4, 5, 6, 7, 8, 9, 10, 11, 12, 13, 14, 15, 16, 17, 18, 19, 20, 21, 22, 23, 24] (fun _ => rfl) (by decide) (fun u H locs hw hP hD hS => ?_)
                        obtain ⟨G_5, G_6⟩ := u
                        try dsimp only at hw
                        obtain ⟨hw1, hw2⟩ := hw
                        have hP : va_P D vwCl ([(h0, .inr (2, [.ref o1, .ref o2, .int 0])), (o1, .inl (y 5, 11, .inr (.inr (.inr (.inr (xG r1)))))), (o2, .inl (y 5, 11, .inr (.inr (.inr (.inr (xG r2))))))] ++ (xR y r1 G_5 ++ xR y r2 G_6)) H := hP
                        have hD : va_D A ([(h0, .inr (2, [.ref o1, .ref o2, .int 0])), (o1, .inl (y 5, 11, .inr (.inr (.inr (.inr (xG r1)))))), (o2, .inl (y 5, 11, .inr (.inr (.inr (.inr (xG r2))))))] ++ (xR y r1 G_5 ++ xR y r2 G_6)) := hD
                        refine lv_iinc (v := (nI (t + 1))) (lv' := [(2, .int (nI (t + 1))), (1, .int (nI q)), (0, .ref h0)]) hx hb dX3_fill_59 hl (k := 0) rfl (nI_1 t) (by decide) rfl (fun ls hl => ?_)
                        refine lv_goto (tgt := 47) hx hb dX3_fill_62 (by decide) ?_
                        exact ih_loop3 (t + 1) G_5 G_6 H locs ls (by omega) (by omega) (by intro b h1 h2; rw [hw1]; exact if h : q = q ∧ b = t then (by rw [if_pos h, h.2]) else (by rw [if_neg h]; exact hI b h1 (by omega))) (by intro b h1 h2; rw [hw2]; exact if h : q = q ∧ b = t then (by rw [if_pos h, h.2]) else (by rw [if_neg h]; exact hJ b h1 (by omega))) (by intro a b h1 h2 h3 h4; rw [hw1, if_neg (by omega)]; exact hB3 a b h1 h2 h3 h4) (by intro a b h1 h2 h3 h4; rw [hw2, if_neg (by omega)]; exact hC3 a b h1 h2 h3 h4) (by intro a h1 h2; rw [hw1, if_neg (by omega)]; exact hZ3 a h1 h2) (by (try dsimp only); (try simp only [lg_cmp_lt, lg_cmp_le, lg_cmp_gt, lg_cmp_ge] at *); (try simp only [x_lt, x_le, Int32.reduceToInt, x_ltL, x_leL, Int64.reduceToInt] at *); omega) (x_subP hP [0, 1, 2, 3, 4, 5, 6, 7, 8, 9, 10, 11, 12, 13, 14, 15, 16, 17, 18, 19, 20, 21, 22, 23, 24] rfl) (x_subD hD [0, 1, 2, 3, 4, 5, 6, 7, 8, 9, 10, 11, 12, 13, 14, 15, 16, 17, 18, 19, 20, 21, 22, 23, 24] rfl (by decide)) hS (lv_sub hl [0, 1, 2] rfl)
                  exact loop3 102 2 P1 P2 H locs ls (Nat.le_refl 2) (by decide) (by intro b h1 h2; rw [show b = 1 by omega, hZ2 q hK1 (by omega), gg_one (by omega)]; rfl) (fun b h1 h2 => absurd h2 (by omega)) hB hC hZ2 (by (try dsimp only); (try simp only [lg_cmp_lt, lg_cmp_le, lg_cmp_gt, lg_cmp_ge] at *); (try simp only [x_lt, x_le, Int32.reduceToInt, x_ltL, x_leL, Int64.reduceToInt] at *); omega) (x_subP hP [0, 1, 2, 3, 4, 5, 6, 7, 8, 9, 10, 11, 12, 13, 14, 15, 16, 17, 18, 19, 20, 21, 22, 23, 24] rfl) (x_subD hD [0, 1, 2, 3, 4, 5, 6, 7, 8, 9, 10, 11, 12, 13, 14, 15, 16, 17, 18, 19, 20, 21, 22, 23, 24] rfl (by decide)) hS (lv_sub hl [0, 1, 2] rfl)
            exact loop2 12 2 G1 F2 H locs ls (Nat.le_refl 2) (by decide) (by intro a b h1 h2 h3 h4; rw [show a = 1 by omega]; exact hAA b h3 (by omega)) (fun a b h1 h2 => absurd h2 (by omega)) hZ (by (try dsimp only); (try simp only [lg_cmp_lt, lg_cmp_le, lg_cmp_gt, lg_cmp_ge] at *); (try simp only [x_lt, x_le, Int32.reduceToInt, x_ltL, x_leL, Int64.reduceToInt] at *); omega) (x_subP hP [0, 1, 2, 3, 4, 5, 6, 7, 8, 9, 10, 11, 12, 13, 14, 15, 16, 17, 18, 19, 20, 21, 22, 23, 24] rfl) (x_subD hD [0, 1, 2, 3, 4, 5, 6, 7, 8, 9, 10, 11, 12, 13, 14, 15, 16, 17, 18, 19, 20, 21, 22, 23, 24] rfl (by decide)) hS (lv_sub hl [0, 1] rfl)
          · have hj3 : j ≤ 100 := by have h := mt (nI_ltI (a := 100) (by omega) (by omega)).mpr c_2; omega
            refine lv_aload_n hx hb dX3_fill_16 rfl (lv_at hl 1 rfl) ?_
            refine va_get (D := D) (ci := 2) (v := .ref o1) (C := RX3) (T := TX3) (N := 3) hx hb hts inX3 hown hK hP 0 rfl rfl 0 (by decide) fl13 (fun _ h9 => h9) rfl dX3_fill_17 ?_
            refine lv_iconst (v := 1) hx hb dX3_fill_20 (by decide) ?_
            refine x_ald2 (k := 1) hx hb hK hP 1 5 rfl rfl (by decide) dX3_fill_21 ?_
            refine lv_iload_n hx hb dX3_fill_22 rfl (lv_at hl 0 rfl) ?_
            refine lv_iload_n hx hb dX3_fill_23 rfl (lv_at hl 0 rfl) ?_
            refine lv_iload_n hx hb dX3_fill_24 rfl (lv_at hl 0 rfl) ?_
            refine lv_iconst (v := 1) hx hb dX3_fill_25 (by decide) ?_
            refine lv_isub hx hb dX3_fill_26 ?_
            refine lv_topi (fun i_7 ei_7 => ?_)
            obtain rfl : i_7 = (nI (j - 1)) := ei_7.trans (pk_sub (a := j) (b := 1) (by omega))
            refine lv_imul hx hb dX3_fill_27 ?_
            refine lv_topi (fun i_8 ei_8 => ?_)
            obtain rfl : i_8 = (nI (j * (j - 1))) := ei_8.trans (pk_mul j (j - 1))
            refine lv_iconst (v := 2) hx hb dX3_fill_28 (by decide) ?_
            refine lv_idiv hx hb dX3_fill_29 (by decide) ?_
            refine lv_topi (fun i_9 ei_9 => ?_)
            obtain rfl : i_9 = (nI ((j * (j - 1)) / 2)) := ei_9.trans (pk_div (a := (j * (j - 1))) (d := 2) (Nat.lt_of_le_of_lt (Nat.mul_le_mul (show j ≤ 100 by omega) (show j - 1 ≤ 99 by omega)) (by decide)) (by decide) (by decide))
            refine va_iast hx hb hK hP hD hS (3 + 1) 2 (x_at1 y r1 r2 G1 F2 (k := 1) (by decide)) rfl (vp_in_nI (n := j) (by omega) (by decide)) dX3_fill_30 (fun H locs hP hD hS => ?_)
            rw [x_set1 y r1 r2 G1 F2 _ (k := 1) (by decide), nI_clamp (n := j) (by omega)] at hP hD
            obtain ⟨G_10, eG_10⟩ : ∃ z : Nat → Nat → Int32, z = (va_up G1 1 (upd (G1 1) j (nI ((j * (j - 1)) / 2)))) := ⟨_, rfl⟩
            rw [← eG_10] at hP hD
            have hP : va_P D vwCl ([(h0, .inr (2, [.ref o1, .ref o2, .int 0])), (o1, .inl (y 5, 11, .inr (.inr (.inr (.inr (xG r1)))))), (o2, .inl (y 5, 11, .inr (.inr (.inr (.inr (xG r2))))))] ++ (xR y r1 G_10 ++ xR y r2 F2)) H := hP
            have hD : va_D A ([(h0, .inr (2, [.ref o1, .ref o2, .int 0])), (o1, .inl (y 5, 11, .inr (.inr (.inr (.inr (xG r1)))))), (o2, .inl (y 5, 11, .inr (.inr (.inr (.inr (xG r2))))))] ++ (xR y r1 G_10 ++ xR y r2 F2)) := hD
            refine lv_iinc (v := (nI (j + 1))) (lv' := [(1, .int (nI (j + 1))), (0, .ref h0)]) hx hb dX3_fill_31 hl (k := 0) rfl (nI_1 j) (by decide) rfl (fun ls hl => ?_)
            refine lv_goto (tgt := 10) hx hb dX3_fill_34 (by decide) ?_
            exact ih_loop1 (j + 1) G_10 H locs ls (by omega) (by omega) (by intro b h1 h2; rw [eG_10, x_pt]; exact if h : (1 : Nat) = 1 ∧ b = j then (by rw [if_pos h, h.2]; rfl) else (by rw [if_neg h]; exact hAA b h1 (by omega))) (by intro a h1 h2; rw [eG_10, x_pt, if_neg (by omega)]; exact hZ a h1 h2) (by (try dsimp only); (try simp only [lg_cmp_lt, lg_cmp_le, lg_cmp_gt, lg_cmp_ge] at *); (try simp only [x_lt, x_le, Int32.reduceToInt, x_ltL, x_leL, Int64.reduceToInt] at *); omega) (x_subP hP [0, 1, 2, 3, 4, 5, 6, 7, 8, 9, 10, 11, 12, 13, 14, 15, 16, 17, 18, 19, 20, 21, 22, 23, 24] rfl) (x_subD hD [0, 1, 2, 3, 4, 5, 6, 7, 8, 9, 10, 11, 12, 13, 14, 15, 16, 17, 18, 19, 20, 21, 22, 23, 24] rfl (by decide)) hS (lv_sub hl [0, 1] rfl)
      exact loop1 102 1 F1 H locs ls (Nat.le_refl 1) (by decide) (fun b h1 h2 => absurd h2 (by omega)) hz (by (try dsimp only); (try simp only [lg_cmp_lt, lg_cmp_le, lg_cmp_gt, lg_cmp_ge] at *); (try simp only [x_lt, x_le, Int32.reduceToInt, x_ltL, x_leL, Int64.reduceToInt] at *); omega) (x_subP hP [0, 1, 2, 3, 4, 5, 6, 7, 8, 9, 10, 11, 12, 13, 14, 15, 16, 17, 18, 19, 20, 21, 22, 23, 24] rfl) (x_subD hD [0, 1, 2, 3, 4, 5, 6, 7, 8, 9, 10, 11, 12, 13, 14, 15, 16, 17, 18, 19, 20, 21, 22, 23, 24] rfl (by decide)) hS (lv_sub hl [0, 1] rfl)
    · exact absurd (by decide) c_1
  · skip
    refine lv_aload_n hx hb dX3_fill_0 rfl (lv_at hl 0 rfl) ?_
    refine va_get (D := D) (ci := 2) (v := .int 1) (C := RX3) (T := TX3) (N := 3) hx hb hts inX3 hown hK hP 0 rfl rfl 2 (by decide) fl26 (fun _ h9 => h9) rfl dX3_fill_1 ?_
    refine lv_if_eq (tgt := 8) hx hb dX3_fill_4 (by decide) (fun c_11 => ?_) (fun c_11 => ?_)
    · exact absurd c_11 (by decide)
    · exact x_vret (u := (F1, F2)) hx hb hr ⟨hB0, hC0⟩ hP hD hK hS [0, 1, 2, 3, 4, 5, 6, 7, 8, 9, 10, 11, 12, 13, 14, 15, 16, 17, 18, 19, 20, 21, 22, 23, 24] rfl (by decide) dX3_fill_7 hlocks hQ

def v_c_roundsAgainK : List Cond := .code yX3_roundsAgain cX3_roundsAgain 3 (some .int) :: ([.fieldLink RX3 13 "SlopeRunner$Keepers" "least" "[[I"] ++ ((wsS RX3 19 yX3_canBe v_c_canBe) ++ ((wsV RX3 23 RX3 yX3_fill v_c_fillK) ++ wsX30)))
theorem g_c_roundsAgainK_0 : GoodIn v_c_roundsAgainK (wsS RX3 19 yX3_canBe v_c_canBe) := goodIn_sub (fun w h => List.mem_cons_of_mem _ (List.mem_append_right _ (List.mem_append_left _ h))) (by decide +kernel)
theorem g_c_roundsAgainK_1 : GoodIn v_c_roundsAgainK (wsV RX3 23 RX3 yX3_fill v_c_fillK) := goodIn_sub (fun w h => List.mem_cons_of_mem _ (List.mem_append_right _ (List.mem_append_right _ (List.mem_append_left _ h)))) (by decide +kernel)
set_option maxHeartbeats 4000000 in
set_option maxRecDepth 100000 in
theorem c_roundsAgainK (l : Launch) (D : va_G) (y : Nat → ClassId) (sz : Nat) (h0 o1 o2 : Nat) (r1 r2 : Nat → Nat) (fi : Int32) (F1 F2 : Nat → Nat → Int32) (hki : KI fi F1 F2) (n k : Int32)  : Met l yX3_roundsAgain v_c_roundsAgainK ({ frames := 2, cells := 0, slots := 0, locals := 46 } : Room) (va_Pc [.ref h0, .int n, .int k] (xPre D (xT y) ([(h0, .inr (2, [.ref o1, .ref o2, .int fi])), (o1, .inl (y 5, 11, .inr (.inr (.inr (.inr (xG r1)))))), (o2, .inl (y 5, 11, .inr (.inr (.inr (.inr (xG r2))))))] ++ (xR y r1 F1 ++ xR y r2 F2)) sz)) (va_Qi (fun (r : Int32) (u : Int32 × (Nat → Nat → Int32) × (Nat → Nat → Int32)) => r = ga n k ∧ KI u.1 u.2.1 u.2.2) (fun (u : Int32 × (Nat → Nat → Int32) × (Nat → Nat → Int32)) => xB D (xT y) (va_A ([(h0, .inr (2, [.ref o1, .ref o2, .int fi])), (o1, .inl (y 5, 11, .inr (.inr (.inr (.inr (xG r1)))))), (o2, .inl (y 5, 11, .inr (.inr (.inr (.inr (xG r2))))))] ++ (xR y r1 F1 ++ xR y r2 F2)) sz) ([(h0, .inr (2, [.ref o1, .ref o2, .int u.1])), (o1, .inl (y 5, 11, .inr (.inr (.inr (.inr (xG r1)))))), (o2, .inl (y 5, 11, .inr (.inr (.inr (.inr (xG r2))))))] ++ (xR y r1 u.2.1 ++ xR y r2 u.2.2))) (va_A ([(h0, .inr (2, [.ref o1, .ref o2, .int fi])), (o1, .inl (y 5, 11, .inr (.inr (.inr (.inr (xG r1)))))), (o2, .inl (y 5, 11, .inr (.inr (.inr (.inr (xG r2))))))] ++ (xR y r1 F1 ++ xR y r2 F2)) sz)) 0 0 (va_A ([(h0, .inr (2, [.ref o1, .ref o2, .int fi])), (o1, .inl (y 5, 11, .inr (.inr (.inr (.inr (xG r1)))))), (o2, .inl (y 5, 11, .inr (.inr (.inr (.inr (xG r2))))))] ++ (xR y r1 F1 ++ xR y r2 F2)) sz) := by
  refine x_meti (cc := cX3_roundsAgain) (maxL := 3) (by decide) rfl (Nat.le_of_ble_eq_true rfl) ?_
  intro p e s m below meth c A H locs Q hx hb hml hown hts hr hlocks hmn hA hP hK hD hS ls hl hQ
  have hl : lv_has ls 3 [(0, .ref h0), (1, .int n), (2, .int k)] := hl
  have fl13 := hts (.fieldLink RX3 13 "SlopeRunner$Keepers" "least" "[[I") (List.mem_of_getElem? (i := 1) rfl)
  have inX3 : ∀ w ∈ wsX30, w ∈ v_c_roundsAgainK := (fun w h => List.mem_cons_of_mem _ (List.mem_append_right _ (List.mem_append_right _ (List.mem_append_right _ h))))
  refine lv_iload_n hx hb dX3_roundsAgain_0 rfl (lv_at hl 1 rfl) ?_
  refine lv_iload_n hx hb dX3_roundsAgain_1 rfl (lv_at hl 2 rfl) ?_
  refine x_calli (w1 := fun (u : Unit) => []) (wr := ([(h0, .inr (2, [.ref o1, .ref o2, .int fi])), (o1, .inl (y 5, 11, .inr (.inr (.inr (.inr (xG r1)))))), (o2, .inl (y 5, 11, .inr (.inr (.inr (.inr (xG r2))))))] ++ (xR y r1 F1 ++ xR y r2 F2))) (ws' := fun (u : Unit) => ([(h0, .inr (2, [.ref o1, .ref o2, .int fi])), (o1, .inl (y 5, 11, .inr (.inr (.inr (.inr (xG r1)))))), (o2, .inl (y 5, 11, .inr (.inr (.inr (.inr (xG r2))))))] ++ (xR y r1 F1 ++ xR y r2 F2))) (va_runS (As := [.int n, .int k]) (rest := []) ⟨hx, hb, hml, hown, hts⟩ (c_canBe l D y H.size n k) (cwS 2 hts g_c_roundsAgainK_0 rfl rfl rfl (by decide +kernel) ⟨Nat.le_of_ble_eq_true rfl, Nat.le_of_ble_eq_true rfl⟩) (x_preS hK (x_subP hP [] rfl) (x_subD hD [] rfl (by decide))) rfl rfl hl.1 rfl (lv_room (Nat.le_of_ble_eq_true rfl)) dX3_roundsAgain_2 ⟨Nat.le_of_ble_eq_true rfl, Nat.le_of_ble_eq_true rfl⟩) hP hD hS hA [] [0, 1, 2, 3, 4, 5, 6, 7, 8, 9, 10, 11, 12, 13, 14, 15, 16, 17, 18, 19, 20, 21, 22, 23, 24] rfl rfl (by decide) (by decide) [0, 1, 2, 3, 4, 5, 6, 7, 8, 9, 10, 11, 12, 13, 14, 15, 16, 17, 18, 19, 20, 21, 22, 23, 24] (fun _ => rfl) (by decide) (fun r_1 u H locs hw hP hD hS => ?_)
  try dsimp only at hw
  have hP : va_P D vwCl ([(h0, .inr (2, [.ref o1, .ref o2, .int fi])), (o1, .inl (y 5, 11, .inr (.inr (.inr (.inr (xG r1)))))), (o2, .inl (y 5, 11, .inr (.inr (.inr (.inr (xG r2))))))] ++ (xR y r1 F1 ++ xR y r2 F2)) H := hP
  have hD : va_D A ([(h0, .inr (2, [.ref o1, .ref o2, .int fi])), (o1, .inl (y 5, 11, .inr (.inr (.inr (.inr (xG r1)))))), (o2, .inl (y 5, 11, .inr (.inr (.inr (.inr (xG r2))))))] ++ (xR y r1 F1 ++ xR y r2 F2)) := hD
  rcases hw with ⟨rfl, g_2⟩ | ⟨rfl, g_2⟩
  · refine lv_if_ne (tgt := 10) hx hb dX3_roundsAgain_5 (by decide) (fun c_3 => ?_) (fun c_3 => ?_)
    · obtain ⟨N, hN1, hN2, rfl⟩ := x_nat (x := n) (a := 1) (b := 100) g_2.1.1 g_2.1.2 (by decide)
      obtain ⟨K, hK1, hK2, rfl⟩ := x_nat (x := k) (a := 1) (b := 10) g_2.2.1 g_2.2.2 (by decide)
      clear g_2
      refine lv_aload_n hx hb dX3_roundsAgain_10 rfl (lv_at hl 0 rfl) ?_
      refine x_callv (w1 := fun (u : (Nat → Nat → Int32) × (Nat → Nat → Int32)) => ([(h0, .inr (2, [.ref o1, .ref o2, .int 1])), (o1, .inl (y 5, 11, .inr (.inr (.inr (.inr (xG r1)))))), (o2, .inl (y 5, 11, .inr (.inr (.inr (.inr (xG r2))))))] ++ (xR y r1 u.1 ++ xR y r2 u.2))) (wr := []) (ws' := fun (u : (Nat → Nat → Int32) × (Nat → Nat → Int32)) => ([(h0, .inr (2, [.ref o1, .ref o2, .int 1])), (o1, .inl (y 5, 11, .inr (.inr (.inr (.inr (xG r1)))))), (o2, .inl (y 5, 11, .inr (.inr (.inr (.inr (xG r2))))))] ++ (xR y r1 u.1 ++ xR y r2 u.2))) (va_runV (As := []) (rest := []) ⟨hx, hb, hml, hown, hts⟩ (c_fillK l D y H.size h0 o1 o2 r1 r2 fi F1 F2 hki) (cwV 0 hts g_c_roundsAgainK_1 rfl rfl rfl (by decide +kernel) ⟨Nat.le_of_ble_eq_true rfl, Nat.le_of_ble_eq_true rfl⟩) (x_preV (q := (RX3, TX3, 3)) hK (x_subP hP [0, 1, 2, 3, 4, 5, 6, 7, 8, 9, 10, 11, 12, 13, 14, 15, 16, 17, 18, 19, 20, 21, 22, 23, 24] rfl) (x_subD hD [0, 1, 2, 3, 4, 5, 6, 7, 8, 9, 10, 11, 12, 13, 14, 15, 16, 17, 18, 19, 20, 21, 22, 23, 24] rfl (by decide)) (ci := 2) (q0 := 0) rfl rfl) rfl rfl hl.1 rfl (lv_room (Nat.le_of_ble_eq_true rfl)) dX3_roundsAgain_11 ⟨Nat.le_of_ble_eq_true rfl, Nat.le_of_ble_eq_true rfl⟩) hP hD hS hA [0, 1, 2, 3, 4, 5, 6, 7, 8, 9, 10, 11, 12, 13, 14, 15, 16, 17, 18, 19, 20, 21, 22, 23, 24] [] rfl rfl (by decide) (by decide) [0, 1, 2, 3, 4, 5, 6, 7, 8, 9, 10, 11, 12, 13, 14, 15, 16, 17, 18, 19, 20, 21, 22, 23, 24] (fun _ => rfl) (by decide) (fun u H locs hw hP hD hS => ?_)
      obtain ⟨G_4, G_5⟩ := u
      try dsimp only at hw
      obtain ⟨hw1, hw2⟩ := hw
      have hP : va_P D vwCl ([(h0, .inr (2, [.ref o1, .ref o2, .int 1])), (o1, .inl (y 5, 11, .inr (.inr (.inr (.inr (xG r1)))))), (o2, .inl (y 5, 11, .inr (.inr (.inr (.inr (xG r2))))))] ++ (xR y r1 G_4 ++ xR y r2 G_5)) H := hP
      have hD : va_D A ([(h0, .inr (2, [.ref o1, .ref o2, .int 1])), (o1, .inl (y 5, 11, .inr (.inr (.inr (.inr (xG r1)))))), (o2, .inl (y 5, 11, .inr (.inr (.inr (.inr (xG r2))))))] ++ (xR y r1 G_4 ++ xR y r2 G_5)) := hD
      refine lv_aload_n hx hb dX3_roundsAgain_14 rfl (lv_at hl 0 rfl) ?_
      refine va_get (D := D) (ci := 2) (v := .ref o1) (C := RX3) (T := TX3) (N := 3) hx hb hts inX3 hown hK hP 0 rfl rfl 0 (by decide) fl13 (fun _ h9 => h9) rfl dX3_roundsAgain_15 ?_
      refine lv_iload_n hx hb dX3_roundsAgain_18 rfl (lv_at hl 2 rfl) ?_
      refine x_ald2 (k := K) hx hb hK hP 1 5 rfl rfl (by omega) dX3_roundsAgain_19 ?_
      refine lv_iload_n hx hb dX3_roundsAgain_20 rfl (lv_at hl 1 rfl) ?_
      refine va_iald hx hb hK hP (3 + K) 2 (x_at1 y r1 r2 G_4 G_5 (k := K) (by omega)) rfl (vp_in_nI (n := N) (by omega) (by decide)) dX3_roundsAgain_21 ?_
      refine lv_topi (fun i_6 ei_6 => ?_)
      rw [nI_clamp (n := N) (by omega)] at ei_6
      rw [hw1 K N hK1 hK2 hN1 hN2] at ei_6
      exact x_iret (v := i_6) (u := (1, G_4, G_5)) hx hb hr ⟨(by rw [ga_nI hN1 hN2 hK1 hK2]; exact ei_6), Or.inr ⟨rfl, hw1, hw2⟩⟩ hP hD hK hS [0, 1, 2, 3, 4, 5, 6, 7, 8, 9, 10, 11, 12, 13, 14, 15, 16, 17, 18, 19, 20, 21, 22, 23, 24] rfl (by decide) dX3_roundsAgain_22 hlocks hQ
    · exact absurd c_3 (by decide)
  · refine lv_if_ne (tgt := 10) hx hb dX3_roundsAgain_5 (by decide) (fun c_7 => ?_) (fun c_7 => ?_)
    · exact absurd (by decide) c_7
    · refine lv_iconst (v := (-1)) hx hb dX3_roundsAgain_8 (by decide) ?_
      exact x_iret (v := (-1)) (u := (fi, F1, F2)) hx hb hr ⟨(by unfold ga; rw [if_neg g_2]), hki⟩ hP hD hK hS [0, 1, 2, 3, 4, 5, 6, 7, 8, 9, 10, 11, 12, 13, 14, 15, 16, 17, 18, 19, 20, 21, 22, 23, 24] rfl (by decide) dX3_roundsAgain_9 hlocks hQ

def v_c_firstKeptK : List Cond := .code yX3_firstKept cX3_firstKept 3 (some .int) :: ([.fieldLink RX3 16 "SlopeRunner$Keepers" "firstAt" "[[I"] ++ ((wsS RX3 19 yX3_canBe v_c_canBe) ++ ((wsV RX3 23 RX3 yX3_fill v_c_fillK) ++ wsX30)))
theorem g_c_firstKeptK_0 : GoodIn v_c_firstKeptK (wsS RX3 19 yX3_canBe v_c_canBe) := goodIn_sub (fun w h => List.mem_cons_of_mem _ (List.mem_append_right _ (List.mem_append_left _ h))) (by decide +kernel)
theorem g_c_firstKeptK_1 : GoodIn v_c_firstKeptK (wsV RX3 23 RX3 yX3_fill v_c_fillK) := goodIn_sub (fun w h => List.mem_cons_of_mem _ (List.mem_append_right _ (List.mem_append_right _ (List.mem_append_left _ h)))) (by decide +kernel)
set_option maxHeartbeats 4000000 in
set_option maxRecDepth 100000 in
theorem c_firstKeptK (l : Launch) (D : va_G) (y : Nat → ClassId) (sz : Nat) (h0 o1 o2 : Nat) (r1 r2 : Nat → Nat) (fi : Int32) (F1 F2 : Nat → Nat → Int32) (hki : KI fi F1 F2) (n k : Int32)  : Met l yX3_firstKept v_c_firstKeptK ({ frames := 2, cells := 0, slots := 0, locals := 46 } : Room) (va_Pc [.ref h0, .int n, .int k] (xPre D (xT y) ([(h0, .inr (2, [.ref o1, .ref o2, .int fi])), (o1, .inl (y 5, 11, .inr (.inr (.inr (.inr (xG r1)))))), (o2, .inl (y 5, 11, .inr (.inr (.inr (.inr (xG r2))))))] ++ (xR y r1 F1 ++ xR y r2 F2)) sz)) (va_Qi (fun (r : Int32) (u : Int32 × (Nat → Nat → Int32) × (Nat → Nat → Int32)) => r = gb n k ∧ KI u.1 u.2.1 u.2.2) (fun (u : Int32 × (Nat → Nat → Int32) × (Nat → Nat → Int32)) => xB D (xT y) (va_A ([(h0, .inr (2, [.ref o1, .ref o2, .int fi])), (o1, .inl (y 5, 11, .inr (.inr (.inr (.inr (xG r1)))))), (o2, .inl (y 5, 11, .inr (.inr (.inr (.inr (xG r2))))))] ++ (xR y r1 F1 ++ xR y r2 F2)) sz) ([(h0, .inr (2, [.ref o1, .ref o2, .int u.1])), (o1, .inl (y 5, 11, .inr (.inr (.inr (.inr (xG r1)))))), (o2, .inl (y 5, 11, .inr (.inr (.inr (.inr (xG r2))))))] ++ (xR y r1 u.2.1 ++ xR y r2 u.2.2))) (va_A ([(h0, .inr (2, [.ref o1, .ref o2, .int fi])), (o1, .inl (y 5, 11, .inr (.inr (.inr (.inr (xG r1)))))), (o2, .inl (y 5, 11, .inr (.inr (.inr (.inr (xG r2))))))] ++ (xR y r1 F1 ++ xR y r2 F2)) sz)) 0 0 (va_A ([(h0, .inr (2, [.ref o1, .ref o2, .int fi])), (o1, .inl (y 5, 11, .inr (.inr (.inr (.inr (xG r1)))))), (o2, .inl (y 5, 11, .inr (.inr (.inr (.inr (xG r2))))))] ++ (xR y r1 F1 ++ xR y r2 F2)) sz) := by
  refine x_meti (cc := cX3_firstKept) (maxL := 3) (by decide) rfl (Nat.le_of_ble_eq_true rfl) ?_
  intro p e s m below meth c A H locs Q hx hb hml hown hts hr hlocks hmn hA hP hK hD hS ls hl hQ
  have hl : lv_has ls 3 [(0, .ref h0), (1, .int n), (2, .int k)] := hl
  have fl16 := hts (.fieldLink RX3 16 "SlopeRunner$Keepers" "firstAt" "[[I") (List.mem_of_getElem? (i := 1) rfl)
  have inX3 : ∀ w ∈ wsX30, w ∈ v_c_firstKeptK := (fun w h => List.mem_cons_of_mem _ (List.mem_append_right _ (List.mem_append_right _ (List.mem_append_right _ h))))
  refine lv_iload_n hx hb dX3_firstKept_0 rfl (lv_at hl 1 rfl) ?_
  refine lv_iload_n hx hb dX3_firstKept_1 rfl (lv_at hl 2 rfl) ?_
  refine x_calli (w1 := fun (u : Unit) => []) (wr := ([(h0, .inr (2, [.ref o1, .ref o2, .int fi])), (o1, .inl (y 5, 11, .inr (.inr (.inr (.inr (xG r1)))))), (o2, .inl (y 5, 11, .inr (.inr (.inr (.inr (xG r2))))))] ++ (xR y r1 F1 ++ xR y r2 F2))) (ws' := fun (u : Unit) => ([(h0, .inr (2, [.ref o1, .ref o2, .int fi])), (o1, .inl (y 5, 11, .inr (.inr (.inr (.inr (xG r1)))))), (o2, .inl (y 5, 11, .inr (.inr (.inr (.inr (xG r2))))))] ++ (xR y r1 F1 ++ xR y r2 F2))) (va_runS (As := [.int n, .int k]) (rest := []) ⟨hx, hb, hml, hown, hts⟩ (c_canBe l D y H.size n k) (cwS 2 hts g_c_firstKeptK_0 rfl rfl rfl (by decide +kernel) ⟨Nat.le_of_ble_eq_true rfl, Nat.le_of_ble_eq_true rfl⟩) (x_preS hK (x_subP hP [] rfl) (x_subD hD [] rfl (by decide))) rfl rfl hl.1 rfl (lv_room (Nat.le_of_ble_eq_true rfl)) dX3_firstKept_2 ⟨Nat.le_of_ble_eq_true rfl, Nat.le_of_ble_eq_true rfl⟩) hP hD hS hA [] [0, 1, 2, 3, 4, 5, 6, 7, 8, 9, 10, 11, 12, 13, 14, 15, 16, 17, 18, 19, 20, 21, 22, 23, 24] rfl rfl (by decide) (by decide) [0, 1, 2, 3, 4, 5, 6, 7, 8, 9, 10, 11, 12, 13, 14, 15, 16, 17, 18, 19, 20, 21, 22, 23, 24] (fun _ => rfl) (by decide) (fun r_1 u H locs hw hP hD hS => ?_)
  try dsimp only at hw
  have hP : va_P D vwCl ([(h0, .inr (2, [.ref o1, .ref o2, .int fi])), (o1, .inl (y 5, 11, .inr (.inr (.inr (.inr (xG r1)))))), (o2, .inl (y 5, 11, .inr (.inr (.inr (.inr (xG r2))))))] ++ (xR y r1 F1 ++ xR y r2 F2)) H := hP
  have hD : va_D A ([(h0, .inr (2, [.ref o1, .ref o2, .int fi])), (o1, .inl (y 5, 11, .inr (.inr (.inr (.inr (xG r1)))))), (o2, .inl (y 5, 11, .inr (.inr (.inr (.inr (xG r2))))))] ++ (xR y r1 F1 ++ xR y r2 F2)) := hD
  rcases hw with ⟨rfl, g_2⟩ | ⟨rfl, g_2⟩
  · refine lv_if_eq (tgt := 18) hx hb dX3_firstKept_5 (by decide) (fun c_3 => ?_) (fun c_3 => ?_)
    · exact absurd c_3 (by decide)
    · refine lv_iload_n hx hb dX3_firstKept_8 rfl (lv_at hl 1 rfl) ?_
      refine lv_iconst (v := 1) hx hb dX3_firstKept_9 (by decide) ?_
      refine lv_icmp_eq (tgt := 18) hx hb dX3_firstKept_10 (by decide) (fun c_4 => ?_) (fun c_4 => ?_)
      · refine lv_iconst (v := (-1)) hx hb dX3_firstKept_18 (by decide) ?_
        exact x_iret (v := (-1)) (u := (fi, F1, F2)) hx hb hr ⟨(by unfold gb; rw [if_neg (by (try rw [x_eq] at *); (try simp only [Int32.reduceToInt] at *); omega)]), hki⟩ hP hD hK hS [0, 1, 2, 3, 4, 5, 6, 7, 8, 9, 10, 11, 12, 13, 14, 15, 16, 17, 18, 19, 20, 21, 22, 23, 24] rfl (by decide) dX3_firstKept_19 hlocks hQ
      · refine lv_iload_n hx hb dX3_firstKept_13 rfl (lv_at hl 2 rfl) ?_
        refine lv_iconst (v := 1) hx hb dX3_firstKept_14 (by decide) ?_
        refine lv_icmp_ne (tgt := 20) hx hb dX3_firstKept_15 (by decide) (fun c_5 => ?_) (fun c_5 => ?_)
        · have hn2 : 2 ≤ n.toInt := by rw [x_eq] at c_4; simp only [Int32.reduceToInt] at c_4; omega
          have hk2 : 2 ≤ k.toInt := by rw [x_eq] at c_5; simp only [Int32.reduceToInt] at c_5; omega
          obtain ⟨N, hN1, hN2, rfl⟩ := x_nat (x := n) (a := 2) (b := 100) hn2 g_2.1.2 (by decide)
          obtain ⟨K, hK1, hK2, rfl⟩ := x_nat (x := k) (a := 2) (b := 10) hk2 g_2.2.2 (by decide)
          refine lv_aload_n hx hb dX3_firstKept_20 rfl (lv_at hl 0 rfl) ?_
          refine x_callv (w1 := fun (u : (Nat → Nat → Int32) × (Nat → Nat → Int32)) => ([(h0, .inr (2, [.ref o1, .ref o2, .int 1])), (o1, .inl (y 5, 11, .inr (.inr (.inr (.inr (xG r1)))))), (o2, .inl (y 5, 11, .inr (.inr (.inr (.inr (xG r2))))))] ++ (xR y r1 u.1 ++ xR y r2 u.2))) (wr := []) (ws' := fun (u : (Nat → Nat → Int32) × (Nat → Nat → Int32)) => ([(h0, .inr (2, [.ref o1, .ref o2, .int 1])), (o1, .inl (y 5, 11, .inr (.inr (.inr (.inr (xG r1)))))), (o2, .inl (y 5, 11, .inr (.inr (.inr (.inr (xG r2))))))] ++ (xR y r1 u.1 ++ xR y r2 u.2))) (va_runV (As := []) (rest := []) ⟨hx, hb, hml, hown, hts⟩ (c_fillK l D y H.size h0 o1 o2 r1 r2 fi F1 F2 hki) (cwV 0 hts g_c_firstKeptK_1 rfl rfl rfl (by decide +kernel) ⟨Nat.le_of_ble_eq_true rfl, Nat.le_of_ble_eq_true rfl⟩) (x_preV (q := (RX3, TX3, 3)) hK (x_subP hP [0, 1, 2, 3, 4, 5, 6, 7, 8, 9, 10, 11, 12, 13, 14, 15, 16, 17, 18, 19, 20, 21, 22, 23, 24] rfl) (x_subD hD [0, 1, 2, 3, 4, 5, 6, 7, 8, 9, 10, 11, 12, 13, 14, 15, 16, 17, 18, 19, 20, 21, 22, 23, 24] rfl (by decide)) (ci := 2) (q0 := 0) rfl rfl) rfl rfl hl.1 rfl (lv_room (Nat.le_of_ble_eq_true rfl)) dX3_firstKept_21 ⟨Nat.le_of_ble_eq_true rfl, Nat.le_of_ble_eq_true rfl⟩) hP hD hS hA [0, 1, 2, 3, 4, 5, 6, 7, 8, 9, 10, 11, 12, 13, 14, 15, 16, 17, 18, 19, 20, 21, 22, 23, 24] [] rfl rfl (by decide) (by decide) [0, 1, 2, 3, 4, 5, 6, 7, 8, 9, 10, 11, 12, 13, 14, 15, 16, 17, 18, 19, 20, 21, 22, 23, 24] (fun _ => rfl) (by decide) (fun u H locs hw hP hD hS => ?_)
          obtain ⟨G_6, G_7⟩ := u
          try dsimp only at hw
          obtain ⟨hw1, hw2⟩ := hw
          have hP : va_P D vwCl ([(h0, .inr (2, [.ref o1, .ref o2, .int 1])), (o1, .inl (y 5, 11, .inr (.inr (.inr (.inr (xG r1)))))), (o2, .inl (y 5, 11, .inr (.inr (.inr (.inr (xG r2))))))] ++ (xR y r1 G_6 ++ xR y r2 G_7)) H := hP
          have hD : va_D A ([(h0, .inr (2, [.ref o1, .ref o2, .int 1])), (o1, .inl (y 5, 11, .inr (.inr (.inr (.inr (xG r1)))))), (o2, .inl (y 5, 11, .inr (.inr (.inr (.inr (xG r2))))))] ++ (xR y r1 G_6 ++ xR y r2 G_7)) := hD
          refine lv_aload_n hx hb dX3_firstKept_24 rfl (lv_at hl 0 rfl) ?_
          refine va_get (D := D) (ci := 2) (v := .ref o2) (C := RX3) (T := TX3) (N := 3) hx hb hts inX3 hown hK hP 0 rfl rfl 1 (by decide) fl16 (fun _ h9 => h9) rfl dX3_firstKept_25 ?_
          refine lv_iload_n hx hb dX3_firstKept_28 rfl (lv_at hl 2 rfl) ?_
          refine x_ald2 (k := K) hx hb hK hP 2 5 rfl rfl (by omega) dX3_firstKept_29 ?_
          refine lv_iload_n hx hb dX3_firstKept_30 rfl (lv_at hl 1 rfl) ?_
          refine va_iald hx hb hK hP (14 + K) 2 (x_at2 y r1 r2 G_6 G_7 (k := K) (by omega)) rfl (vp_in_nI (n := N) (by omega) (by decide)) dX3_firstKept_31 ?_
          refine lv_topi (fun i_8 ei_8 => ?_)
          rw [nI_clamp (n := N) (by omega)] at ei_8
          rw [hw2 K N hK1 hK2 hN1 hN2] at ei_8
          exact x_iret (v := i_8) (u := (1, G_6, G_7)) hx hb hr ⟨(by rw [gb_nI hN1 hN2 hK1 hK2]; exact ei_8), Or.inr ⟨rfl, hw1, hw2⟩⟩ hP hD hK hS [0, 1, 2, 3, 4, 5, 6, 7, 8, 9, 10, 11, 12, 13, 14, 15, 16, 17, 18, 19, 20, 21, 22, 23, 24] rfl (by decide) dX3_firstKept_32 hlocks hQ
        · refine lv_iconst (v := (-1)) hx hb dX3_firstKept_18 (by decide) ?_
          exact x_iret (v := (-1)) (u := (fi, F1, F2)) hx hb hr ⟨(by unfold gb; rw [if_neg (by (try rw [x_eq] at *); (try simp only [Int32.reduceToInt] at *); omega)]), hki⟩ hP hD hK hS [0, 1, 2, 3, 4, 5, 6, 7, 8, 9, 10, 11, 12, 13, 14, 15, 16, 17, 18, 19, 20, 21, 22, 23, 24] rfl (by decide) dX3_firstKept_19 hlocks hQ
  · refine lv_if_eq (tgt := 18) hx hb dX3_firstKept_5 (by decide) (fun c_9 => ?_) (fun c_9 => ?_)
    · refine lv_iconst (v := (-1)) hx hb dX3_firstKept_18 (by decide) ?_
      exact x_iret (v := (-1)) (u := (fi, F1, F2)) hx hb hr ⟨(by unfold gb; rw [if_neg (by (try rw [x_eq] at *); (try simp only [Int32.reduceToInt] at *); omega)]), hki⟩ hP hD hK hS [0, 1, 2, 3, 4, 5, 6, 7, 8, 9, 10, 11, 12, 13, 14, 15, 16, 17, 18, 19, 20, 21, 22, 23, 24] rfl (by decide) dX3_firstKept_19 hlocks hQ
    · exact absurd (by decide) c_9

