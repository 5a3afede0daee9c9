theorem x_pt {F : Nat → Nat → Int32} {k n : Nat} {v : Int32} {a b : Nat} : va_up F k (upd (F k) n v) a b = if a = k ∧ b = n then v else F a b := by
  by_cases h : a = k
  · subst h
    rw [va_up_self]
    by_cases h2 : b = n
    · subst h2; simp [upd]
    · simp [upd, h2]
  · rw [va_up_ne _ _ h, if_neg (fun q => h q.1)]
theorem dX3_canBe_0 : decode cX3_canBe 0 = .ok (.iload_n 0, 1) := by decide +kernel
theorem dX3_canBe_1 : decode cX3_canBe 1 = .ok (.iconst 1, 1) := by decide +kernel
theorem dX3_canBe_2 : decode cX3_canBe 2 = .ok (.if_icmp .lt 24, 3) := by decide +kernel
theorem dX3_canBe_5 : decode cX3_canBe 5 = .ok (.iload_n 0, 1) := by decide +kernel
theorem dX3_canBe_6 : decode cX3_canBe 6 = .ok (.bipush 100, 2) := by decide +kernel
theorem dX3_canBe_8 : decode cX3_canBe 8 = .ok (.if_icmp .gt 18, 3) := by decide +kernel
theorem dX3_canBe_11 : decode cX3_canBe 11 = .ok (.iload_n 1, 1) := by decide +kernel
theorem dX3_canBe_12 : decode cX3_canBe 12 = .ok (.iconst 1, 1) := by decide +kernel
theorem dX3_canBe_13 : decode cX3_canBe 13 = .ok (.if_icmp .lt 13, 3) := by decide +kernel
theorem dX3_canBe_16 : decode cX3_canBe 16 = .ok (.iload_n 1, 1) := by decide +kernel
theorem dX3_canBe_17 : decode cX3_canBe 17 = .ok (.bipush 10, 2) := by decide +kernel
theorem dX3_canBe_19 : decode cX3_canBe 19 = .ok (.if_icmp .gt 7, 3) := by decide +kernel
theorem dX3_canBe_22 : decode cX3_canBe 22 = .ok (.iconst 1, 1) := by decide +kernel
theorem dX3_canBe_23 : decode cX3_canBe 23 = .ok (.goto 4, 3) := by decide +kernel
theorem dX3_canBe_26 : decode cX3_canBe 26 = .ok (.iconst 0, 1) := by decide +kernel
theorem dX3_canBe_27 : decode cX3_canBe 27 = .ok (.ireturn, 1) := by decide +kernel
theorem dX3_fillOne_0 : decode cX3_fillOne 0 = .ok (.aload_n 0, 1) := by decide +kernel
theorem dX3_fillOne_1 : decode cX3_fillOne 1 = .ok (.getfield 13, 3) := by decide +kernel
theorem dX3_fillOne_4 : decode cX3_fillOne 4 = .ok (.iload_n 2, 1) := by decide +kernel
theorem dX3_fillOne_5 : decode cX3_fillOne 5 = .ok (.aaload, 1) := by decide +kernel
theorem dX3_fillOne_6 : decode cX3_fillOne 6 = .ok (.iload_n 1, 1) := by decide +kernel
theorem dX3_fillOne_7 : decode cX3_fillOne 7 = .ok (.ldc 34, 2) := by decide +kernel
theorem dX3_fillOne_9 : decode cX3_fillOne 9 = .ok (.iastore, 1) := by decide +kernel
theorem dX3_fillOne_10 : decode cX3_fillOne 10 = .ok (.iconst 1, 1) := by decide +kernel
theorem dX3_fillOne_11 : decode cX3_fillOne 11 = .ok (.istore_n 3, 1) := by decide +kernel
theorem dX3_fillOne_12 : decode cX3_fillOne 12 = .ok (.iload_n 3, 1) := by decide +kernel
theorem dX3_fillOne_13 : decode cX3_fillOne 13 = .ok (.iload_n 1, 1) := by decide +kernel
theorem dX3_fillOne_14 : decode cX3_fillOne 14 = .ok (.if_icmp .ge 66, 3) := by decide +kernel
theorem dX3_fillOne_17 : decode cX3_fillOne 17 = .ok (.iload_n 3, 1) := by decide +kernel
theorem dX3_fillOne_18 : decode cX3_fillOne 18 = .ok (.aload_n 0, 1) := by decide +kernel
theorem dX3_fillOne_19 : decode cX3_fillOne 19 = .ok (.getfield 13, 3) := by decide +kernel
theorem dX3_fillOne_22 : decode cX3_fillOne 22 = .ok (.iload_n 2, 1) := by decide +kernel
theorem dX3_fillOne_23 : decode cX3_fillOne 23 = .ok (.aaload, 1) := by decide +kernel
theorem dX3_fillOne_24 : decode cX3_fillOne 24 = .ok (.iload_n 3, 1) := by decide +kernel
theorem dX3_fillOne_25 : decode cX3_fillOne 25 = .ok (.iaload, 1) := by decide +kernel
theorem dX3_fillOne_26 : decode cX3_fillOne 26 = .ok (.iadd, 1) := by decide +kernel
theorem dX3_fillOne_27 : decode cX3_fillOne 27 = .ok (.aload_n 0, 1) := by decide +kernel
theorem dX3_fillOne_28 : decode cX3_fillOne 28 = .ok (.getfield 13, 3) := by decide +kernel
theorem dX3_fillOne_31 : decode cX3_fillOne 31 = .ok (.iload_n 2, 1) := by decide +kernel
theorem dX3_fillOne_32 : decode cX3_fillOne 32 = .ok (.iconst 1, 1) := by decide +kernel
theorem dX3_fillOne_33 : decode cX3_fillOne 33 = .ok (.isub, 1) := by decide +kernel
theorem dX3_fillOne_34 : decode cX3_fillOne 34 = .ok (.aaload, 1) := by decide +kernel
theorem dX3_fillOne_35 : decode cX3_fillOne 35 = .ok (.iload_n 1, 1) := by decide +kernel
theorem dX3_fillOne_36 : decode cX3_fillOne 36 = .ok (.iload_n 3, 1) := by decide +kernel
theorem dX3_fillOne_37 : decode cX3_fillOne 37 = .ok (.isub, 1) := by decide +kernel
theorem dX3_fillOne_38 : decode cX3_fillOne 38 = .ok (.iaload, 1) := by decide +kernel
theorem dX3_fillOne_39 : decode cX3_fillOne 39 = .ok (.iadd, 1) := by decide +kernel
theorem dX3_fillOne_40 : decode cX3_fillOne 40 = .ok (.istore 4, 2) := by decide +kernel
theorem dX3_fillOne_42 : decode cX3_fillOne 42 = .ok (.iload 4, 2) := by decide +kernel
theorem dX3_fillOne_44 : decode cX3_fillOne 44 = .ok (.aload_n 0, 1) := by decide +kernel
theorem dX3_fillOne_45 : decode cX3_fillOne 45 = .ok (.getfield 13, 3) := by decide +kernel
theorem dX3_fillOne_48 : decode cX3_fillOne 48 = .ok (.iload_n 2, 1) := by decide +kernel
theorem dX3_fillOne_49 : decode cX3_fillOne 49 = .ok (.aaload, 1) := by decide +kernel
theorem dX3_fillOne_50 : decode cX3_fillOne 50 = .ok (.iload_n 1, 1) := by decide +kernel
theorem dX3_fillOne_51 : decode cX3_fillOne 51 = .ok (.iaload, 1) := by decide +kernel
theorem dX3_fillOne_52 : decode cX3_fillOne 52 = .ok (.if_icmp .ge 22, 3) := by decide +kernel
theorem dX3_fillOne_55 : decode cX3_fillOne 55 = .ok (.aload_n 0, 1) := by decide +kernel
theorem dX3_fillOne_56 : decode cX3_fillOne 56 = .ok (.getfield 13, 3) := by decide +kernel
theorem dX3_fillOne_59 : decode cX3_fillOne 59 = .ok (.iload_n 2, 1) := by decide +kernel
theorem dX3_fillOne_60 : decode cX3_fillOne 60 = .ok (.aaload, 1) := by decide +kernel
theorem dX3_fillOne_61 : decode cX3_fillOne 61 = .ok (.iload_n 1, 1) := by decide +kernel
theorem dX3_fillOne_62 : decode cX3_fillOne 62 = .ok (.iload 4, 2) := by decide +kernel
theorem dX3_fillOne_64 : decode cX3_fillOne 64 = .ok (.iastore, 1) := by decide +kernel
theorem dX3_fillOne_65 : decode cX3_fillOne 65 = .ok (.aload_n 0, 1) := by decide +kernel
theorem dX3_fillOne_66 : decode cX3_fillOne 66 = .ok (.getfield 16, 3) := by decide +kernel
theorem dX3_fillOne_69 : decode cX3_fillOne 69 = .ok (.iload_n 2, 1) := by decide +kernel
theorem dX3_fillOne_70 : decode cX3_fillOne 70 = .ok (.aaload, 1) := by decide +kernel
theorem dX3_fillOne_71 : decode cX3_fillOne 71 = .ok (.iload_n 1, 1) := by decide +kernel
theorem dX3_fillOne_72 : decode cX3_fillOne 72 = .ok (.iload_n 3, 1) := by decide +kernel
theorem dX3_fillOne_73 : decode cX3_fillOne 73 = .ok (.iastore, 1) := by decide +kernel
theorem dX3_fillOne_74 : decode cX3_fillOne 74 = .ok (.iinc 3 1, 3) := by decide +kernel
theorem dX3_fillOne_77 : decode cX3_fillOne 77 = .ok (.goto (-65), 3) := by decide +kernel
theorem dX3_fillOne_80 : decode cX3_fillOne 80 = .ok (.return_, 1) := by decide +kernel
def v_c_canBe : List Cond := .code yX3_canBe cX3_canBe 2 (some .boolean) :: []
set_option maxHeartbeats 4000000 in
set_option maxRecDepth 100000 in
theorem c_canBe (l : Launch) (D : va_G) (y : Nat → ClassId) (sz : Nat) (n k : Int32) : Met l yX3_canBe v_c_canBe ({ frames := 0, cells := 0, slots := 0, locals := 0 } : Room) (va_Pc [.int n, .int k] (xPre D (xT y) [] sz)) (va_Qi (fun (r : Int32) (_ : Unit) => (r = 1 ∧ (1 ≤ n.toInt ∧ n.toInt ≤ 100) ∧ 1 ≤ k.toInt ∧ k.toInt ≤ 10) ∨ (r = 0 ∧ ¬ ((1 ≤ n.toInt ∧ n.toInt ≤ 100) ∧ 1 ≤ k.toInt ∧ k.toInt ≤ 10))) (fun (u : Unit) => xB D (xT y) (va_A [] sz) []) (va_A [] sz)) 0 0 (va_A [] sz) := by
  refine x_meti (cc := cX3_canBe) (maxL := 2) (by decide) rfl (Nat.le_of_ble_eq_true rfl) ?_
  intro p e s m below meth c A H locs Q hx hb hml hown hts hr hlocks hmn hA hP hK hD hS ls hl hQ
  have hl : lv_has ls 2 [(0, .int n), (1, .int k)] := hl
  refine lv_iload_n hx hb dX3_canBe_0 rfl (lv_at hl 0 rfl) ?_
  refine lv_iconst (v := 1) hx hb dX3_canBe_1 (by decide) ?_
  refine lv_icmp_lt (tgt := 26) hx hb dX3_canBe_2 (by decide) (fun c_1 => ?_) (fun c_1 => ?_)
  · refine lv_iconst (v := 0) hx hb dX3_canBe_26 (by decide) ?_
    exact x_zret (v := 0) (u := ()) hx hb hr rfl (by first | exact Or.inl ⟨rfl, (by (try dsimp only); (try simp only [lg_cmp_lt, lg_cmp_le, lg_cmp_gt, lg_cmp_ge] at *); (try simp only [x_lt, x_le, Int32.reduceToInt, x_ltL, x_leL, Int64.reduceToInt] at *); omega), (by (try dsimp only); (try simp only [lg_cmp_lt, lg_cmp_le, lg_cmp_gt, lg_cmp_ge] at *); (try simp only [x_lt, x_le, Int32.reduceToInt, x_ltL, x_leL, Int64.reduceToInt] at *); omega), (by (try dsimp only); (try simp only [lg_cmp_lt, lg_cmp_le, lg_cmp_gt, lg_cmp_ge] at *); (try simp only [x_lt, x_le, Int32.reduceToInt, x_ltL, x_leL, Int64.reduceToInt] at *); omega)⟩ | exact Or.inr ⟨rfl, (by (try dsimp only); (try simp only [lg_cmp_lt, lg_cmp_le, lg_cmp_gt, lg_cmp_ge] at *); (try simp only [x_lt, x_le, Int32.reduceToInt, x_ltL, x_leL, Int64.reduceToInt] at *); omega)⟩) hP hD hK hS [] rfl (by decide) dX3_canBe_27 hlocks hQ
  · refine lv_iload_n hx hb dX3_canBe_5 rfl (lv_at hl 0 rfl) ?_
    refine lv_bipush (v := 100) hx hb dX3_canBe_6 (by decide) ?_
    refine lv_icmp_gt (tgt := 26) hx hb dX3_canBe_8 (by decide) (fun c_2 => ?_) (fun c_2 => ?_)
    · refine lv_iconst (v := 0) hx hb dX3_canBe_26 (by decide) ?_
      exact x_zret (v := 0) (u := ()) hx hb hr rfl (by first | exact Or.inl ⟨rfl, (by (try dsimp only); (try simp only [lg_cmp_lt, lg_cmp_le, lg_cmp_gt, lg_cmp_ge] at *); (try simp only [x_lt, x_le, Int32.reduceToInt, x_ltL, x_leL, Int64.reduceToInt] at *); omega), (by (try dsimp only); (try simp only [lg_cmp_lt, lg_cmp_le, lg_cmp_gt, lg_cmp_ge] at *); (try simp only [x_lt, x_le, Int32.reduceToInt, x_ltL, x_leL, Int64.reduceToInt] at *); omega), (by (try dsimp only); (try simp only [lg_cmp_lt, lg_cmp_le, lg_cmp_gt, lg_cmp_ge] at *); (try simp only [x_lt, x_le, Int32.reduceToInt, x_ltL, x_leL, Int64.reduceToInt] at *); omega)⟩ | exact Or.inr ⟨rfl, (by (try dsimp only); (try simp only [lg_cmp_lt, lg_cmp_le, lg_cmp_gt, lg_cmp_ge] at *); (try simp only [x_lt, x_le, Int32.reduceToInt, x_ltL, x_leL, Int64.reduceToInt] at *); omega)⟩) hP hD hK hS [] rfl (by decide) dX3_canBe_27 hlocks hQ
    · refine lv_iload_n hx hb dX3_canBe_11 rfl (lv_at hl 1 rfl) ?_
      refine lv_iconst (v := 1) hx hb dX3_canBe_12 (by decide) ?_
      refine lv_icmp_lt (tgt := 26) hx hb dX3_canBe_13 (by decide) (fun c_3 => ?_) (fun c_3 => ?_)
      · refine lv_iconst (v := 0) hx hb dX3_canBe_26 (by decide) ?_
        exact x_zret (v := 0) (u := ()) hx hb hr rfl (by first | exact Or.inl ⟨rfl, (by (try dsimp only); (try simp only [lg_cmp_lt, lg_cmp_le, lg_cmp_gt, lg_cmp_ge] at *); (try simp only [x_lt, x_le, Int32.reduceToInt, x_ltL, x_leL, Int64.reduceToInt] at *); omega), (by (try dsimp only); (try simp only [lg_cmp_lt, lg_cmp_le, lg_cmp_gt, lg_cmp_ge] at *); (try simp only [x_lt, x_le, Int32.reduceToInt, x_ltL, x_leL, Int64.reduceToInt] at *); omega), (by (try dsimp only); (try simp only [lg_cmp_lt, lg_cmp_le, lg_cmp_gt, lg_cmp_ge] at *); (try simp only [x_lt, x_le, Int32.reduceToInt, x_ltL, x_leL, Int64.reduceToInt] at *); omega)⟩ | exact Or.inr ⟨rfl, (by (try dsimp only); (try simp only [lg_cmp_lt, lg_cmp_le, lg_cmp_gt, lg_cmp_ge] at *); (try simp only [x_lt, x_le, Int32.reduceToInt, x_ltL, x_leL, Int64.reduceToInt] at *); omega)⟩) hP hD hK hS [] rfl (by decide) dX3_canBe_27 hlocks hQ
      · refine lv_iload_n hx hb dX3_canBe_16 rfl (lv_at hl 1 rfl) ?_
        refine lv_bipush (v := 10) hx hb dX3_canBe_17 (by decide) ?_
        refine lv_icmp_gt (tgt := 26) hx hb dX3_canBe_19 (by decide) (fun c_4 => ?_) (fun c_4 => ?_)
        · refine lv_iconst (v := 0) hx hb dX3_canBe_26 (by decide) ?_
          exact x_zret (v := 0) (u := ()) hx hb hr rfl (by first | exact Or.inl ⟨rfl, (by (try dsimp only); (try simp only [lg_cmp_lt, lg_cmp_le, lg_cmp_gt, lg_cmp_ge] at *); (try simp only [x_lt, x_le, Int32.reduceToInt, x_ltL, x_leL, Int64.reduceToInt] at *); omega), (by (try dsimp only); (try simp only [lg_cmp_lt, lg_cmp_le, lg_cmp_gt, lg_cmp_ge] at *); (try simp only [x_lt, x_le, Int32.reduceToInt, x_ltL, x_leL, Int64.reduceToInt] at *); omega), (by (try dsimp only); (try simp only [lg_cmp_lt, lg_cmp_le, lg_cmp_gt, lg_cmp_ge] at *); (try simp only [x_lt, x_le, Int32.reduceToInt, x_ltL, x_leL, Int64.reduceToInt] at *); omega)⟩ | exact Or.inr ⟨rfl, (by (try dsimp only); (try simp only [lg_cmp_lt, lg_cmp_le, lg_cmp_gt, lg_cmp_ge] at *); (try simp only [x_lt, x_le, Int32.reduceToInt, x_ltL, x_leL, Int64.reduceToInt] at *); omega)⟩) hP hD hK hS [] rfl (by decide) dX3_canBe_27 hlocks hQ
        · refine lv_iconst (v := 1) hx hb dX3_canBe_22 (by decide) ?_
          refine lv_goto (tgt := 27) hx hb dX3_canBe_23 (by decide) ?_
          exact x_zret (v := 1) (u := ()) hx hb hr rfl (by first | exact Or.inl ⟨rfl, (by (try dsimp only); (try simp only [lg_cmp_lt, lg_cmp_le, lg_cmp_gt, lg_cmp_ge] at *); (try simp only [x_lt, x_le, Int32.reduceToInt, x_ltL, x_leL, Int64.reduceToInt] at *); omega), (by (try dsimp only); (try simp only [lg_cmp_lt, lg_cmp_le, lg_cmp_gt, lg_cmp_ge] at *); (try simp only [x_lt, x_le, Int32.reduceToInt, x_ltL, x_leL, Int64.reduceToInt] at *); omega), (by (try dsimp only); (try simp only [lg_cmp_lt, lg_cmp_le, lg_cmp_gt, lg_cmp_ge] at *); (try simp only [x_lt, x_le, Int32.reduceToInt, x_ltL, x_leL, Int64.reduceToInt] at *); omega)⟩ | exact Or.inr ⟨rfl, (by (try dsimp only); (try simp only [lg_cmp_lt, lg_cmp_le, lg_cmp_gt, lg_cmp_ge] at *); (try simp only [x_lt, x_le, Int32.reduceToInt, x_ltL, x_leL, Int64.reduceToInt] at *); omega)⟩) hP hD hK hS [] rfl (by decide) dX3_canBe_27 hlocks hQ

def v_c_fillOne : List Cond := .code yX3_fillOne cX3_fillOne 5 none :: ([.fieldLink RX3 13 "SlopeRunner$Keepers" "least" "[[I", .fieldLink RX3 16 "SlopeRunner$Keepers" "firstAt" "[[I", .constant RX3 34 1000000] ++ wsX30)
set_option maxHeartbeats 4000000 in
set_option maxRecDepth 100000 in
theorem c_fillOne (l : Launch) (D : va_G) (y : Nat → ClassId) (sz : Nat) (h0 o1 o2 : Nat) (r1 r2 : Nat → Nat) (fi : Int32) (F1 F2 : Nat → Nat → Int32) (n k : Nat) (hk2 : 2 ≤ k) (hk10 : k ≤ 10) (hn2 : 2 ≤ n) (hn100 : n ≤ 100) (hF : ∀ m, 1 ≤ m → m < n → F1 k m = nI (gg k m)) (hF1 : ∀ m, 1 ≤ m → m ≤ 100 → F1 (k - 1) m = nI (gg (k - 1) m)) : Met l yX3_fillOne v_c_fillOne ({ frames := 0, cells := 0, slots := 0, locals := 0 } : Room) (va_Pc [.ref h0, .int (nI n), .int (nI k)] (xPre D (xT y) ([(h0, .inr (2, [.ref o1, .ref o2, .int fi])), (o1, .inl (y 5, 11, .inr (.inr (.inr (.inr (xG r1)))))), (o2, .inl (y 5, 11, .inr (.inr (.inr (.inr (xG r2))))))] ++ (xR y r1 F1 ++ xR y r2 F2)) sz)) (va_Qv (fun (u : (Nat → Nat → Int32) × (Nat → Nat → Int32)) => (∀ a b : Nat, u.1 a b = if a = k ∧ b = n then nI (gg k n) else F1 a b) ∧ (∀ a b : Nat, u.2 a b = if a = k ∧ b = n then nI (gf k n) else F2 a b)) (fun (u : (Nat → Nat → Int32) × (Nat → Nat → Int32)) => xB D (xT y) (va_A ([(h0, .inr (2, [.ref o1, .ref o2, .int fi])), (o1, .inl (y 5, 11, .inr (.inr (.inr (.inr (xG r1)))))), (o2, .inl (y 5, 11, .inr (.inr (.inr (.inr (xG r2))))))] ++ (xR y r1 F1 ++ xR y r2 F2)) sz) ([(h0, .inr (2, [.ref o1, .ref o2, .int fi])), (o1, .inl (y 5, 11, .inr (.inr (.inr (.inr (xG r1)))))), (o2, .inl (y 5, 11, .inr (.inr (.inr (.inr (xG r2))))))] ++ (xR y r1 u.1 ++ xR y r2 u.2))) (va_A ([(h0, .inr (2, [.ref o1, .ref o2, .int fi])), (o1, .inl (y 5, 11, .inr (.inr (.inr (.inr (xG r1)))))), (o2, .inl (y 5, 11, .inr (.inr (.inr (.inr (xG r2))))))] ++ (xR y r1 F1 ++ xR y r2 F2)) sz)) 0 0 (va_A ([(h0, .inr (2, [.ref o1, .ref o2, .int fi])), (o1, .inl (y 5, 11, .inr (.inr (.inr (.inr (xG r1)))))), (o2, .inl (y 5, 11, .inr (.inr (.inr (.inr (xG r2))))))] ++ (xR y r1 F1 ++ xR y r2 F2)) sz) := by
  refine x_metv (cc := cX3_fillOne) (maxL := 5) (by decide) rfl (Nat.le_of_ble_eq_true rfl) ?_
  intro p e s m below meth c A H locs Q hx hb hml hown hts hr hlocks hmn hA hP hK hD hS ls hl hQ
  have hl : lv_has ls 5 [(0, .ref h0), (1, .int (nI n)), (2, .int (nI k))] := hl
  have fl13 := hts (.fieldLink RX3 13 "SlopeRunner$Keepers" "least" "[[I") (by decide +kernel)
  have inX3 : ∀ w ∈ wsX30, w ∈ v_c_fillOne := (fun w h => List.mem_cons_of_mem _ (List.mem_append_right _ h))
  have fl16 := hts (.fieldLink RX3 16 "SlopeRunner$Keepers" "firstAt" "[[I") (by decide +kernel)
  refine lv_aload_n hx hb dX3_fillOne_0 rfl (lv_at hl 0 rfl) ?_
  refine va_get (D := D) (ci := 2) (v := .ref o1) (C := RX3) (T := TX3) (N := 3) hx hb hts inX3 hown hK hP 0 rfl rfl 0 (by decide) fl13 (fun _ h9 => h9) rfl dX3_fillOne_1 ?_
  refine lv_iload_n hx hb dX3_fillOne_4 rfl (lv_at hl 2 rfl) ?_
  refine x_ald2 (k := k) hx hb hK hP 1 5 rfl rfl (by omega) dX3_fillOne_5 ?_
  refine lv_iload_n hx hb dX3_fillOne_6 rfl (lv_at hl 1 rfl) ?_
  refine lv_ldc (v := 1000000) hx hb hown (hts (.constant RX3 34 1000000) (by decide +kernel)) dX3_fillOne_7 ?_
  refine va_iast hx hb hK hP hD hS (3 + k) 2 (x_at1 y r1 r2 F1 F2 (k := k) (by omega)) rfl (vp_in_nI (n := n) (by omega) (by decide)) dX3_fillOne_9 (fun H locs hP hD hS => ?_)
  rw [x_set1 y r1 r2 F1 F2 _ (k := k) (by omega), nI_clamp (n := n) (by omega)] at hP hD
  obtain ⟨G_1, eG_1⟩ : ∃ z : Nat → Nat → Int32, z = (va_up F1 k (upd (F1 k) n 1000000)) := ⟨_, rfl⟩
  rw [← eG_1] at hP hD
  have hP : va_P D vwCl ([(h0, .inr (2, [.ref o1, .ref o2, .int fi])), (o1, .inl (y 5, 11, .inr (.inr (.inr (.inr (xG r1)))))), (o2, .inl (y 5, 11, .inr (.inr (.inr (.inr (xG r2))))))] ++ (xR y r1 G_1 ++ xR y r2 F2)) H := hP
  have hD : va_D A ([(h0, .inr (2, [.ref o1, .ref o2, .int fi])), (o1, .inl (y 5, 11, .inr (.inr (.inr (.inr (xG r1)))))), (o2, .inl (y 5, 11, .inr (.inr (.inr (.inr (xG r2))))))] ++ (xR y r1 G_1 ++ xR y r2 F2)) := hD
  refine lv_iconst (v := 1) hx hb dX3_fillOne_10 (by decide) ?_
  refine lv_istore_n (lv' := [(3, .int 1), (0, .ref h0), (1, .int (nI n)), (2, .int (nI k))]) hx hb dX3_fillOne_11 rfl hl (by decide) rfl (fun ls hl => ?_)
  have loop : ∀ (fu : Nat) (j : Nat) (G1 : (Nat → Nat → Int32)) (G2 : (Nat → Nat → Int32)) (H : Heap) (locs : List Loc) (ls : Array Slot), (1 ≤ j) → (j ≤ n) → (∀ a b : Nat, G1 a b = if a = k ∧ b = n then nI (gs (gc k n) (j - 1)).1 else F1 a b) → (∀ a b : Nat, ¬ (a = k ∧ b = n) → G2 a b = F2 a b) → (2 ≤ j → G2 k n = nI (gs (gc k n) (j - 1)).2) → ((n : Int) - j < (fu : Int)) → va_P D vwCl ([(h0, .inr (2, [.ref o1, .ref o2, .int fi])), (o1, .inl (y 5, 11, .inr (.inr (.inr (.inr (xG r1)))))), (o2, .inl (y 5, 11, .inr (.inr (.inr (.inr (xG r2))))))] ++ (xR y r1 G1 ++ xR y r2 G2)) H → va_D A ([(h0, .inr (2, [.ref o1, .ref o2, .int fi])), (o1, .inl (y 5, 11, .inr (.inr (.inr (.inr (xG r1)))))), (o2, .inl (y 5, 11, .inr (.inr (.inr (.inr (xG r2))))))] ++ (xR y r1 G1 ++ xR y r2 G2)) → va_S A s.heap H locs → lv_has ls 5 [(3, .int (nI j)), (0, .ref h0), (1, .int (nI n)), (2, .int (nI k))] → W p l e ({ frames := 0, cells := 0, slots := 0, locals := 0 } : Room) s m ([.ref h0, .int (nI n), .int (nI k)] : List Value).toArray below meth c H locs 0 0 Q (F0 m 12 ls []) := by
    intro fu
    induction fu with
    | zero =>
      intro j G1 G2 H locs ls hj1 hj2 hG1 hG2 hG3 hm
      exact absurd hm (by omega)
    | succ fu ih =>
      intro j G1 G2 H locs ls hj1 hj2 hG1 hG2 hG3 hm hP hD hS hl
      refine lv_iload_n hx hb dX3_fillOne_12 rfl (lv_at hl 0 rfl) ?_
      refine lv_iload_n hx hb dX3_fillOne_13 rfl (lv_at hl 2 rfl) ?_
      refine lv_icmp_ge (tgt := 80) hx hb dX3_fillOne_14 (by decide) (fun c_2 => ?_) (fun c_2 => ?_)
      · have hjn : j = n := by have h := (nI_leI (by omega) (by omega)).mp c_2; omega
        rw [hjn] at hG1 hG3
        exact x_vret (u := (G1, G2)) hx hb hr ⟨fun a b => by show G1 a b = _; rw [hG1, gg_step hk2 hn2], fun a b => by show G2 a b = _; exact if h : a = k ∧ b = n then (by rw [if_pos h, h.1, h.2, hG3 hn2]; rfl) else (by rw [if_neg h, hG2 a b h])⟩ hP hD hK hS [0, 1, 2, 3, 4, 5, 6, 7, 8, 9, 10, 11, 12, 13, 14, 15, 16, 17, 18, 19, 20, 21, 22, 23, 24] rfl (by decide) dX3_fillOne_80 hlocks hQ
      · have hjn : j < n := by have h := mt (nI_leI (by omega) (by omega)).mpr c_2; omega
        refine lv_iload_n hx hb dX3_fillOne_17 rfl (lv_at hl 0 rfl) ?_
        refine lv_aload_n hx hb dX3_fillOne_18 rfl (lv_at hl 1 rfl) ?_
        refine va_get (D := D) (ci := 2) (v := .ref o1) (C := RX3) (T := TX3) (N := 3) hx hb hts inX3 hown hK hP 0 rfl rfl 0 (by decide) fl13 (fun _ h9 => h9) rfl dX3_fillOne_19 ?_
        refine lv_iload_n hx hb dX3_fillOne_22 rfl (lv_at hl 3 rfl) ?_
        refine x_ald2 (k := k) hx hb hK hP 1 5 rfl rfl (by omega) dX3_fillOne_23 ?_
        refine lv_iload_n hx hb dX3_fillOne_24 rfl (lv_at hl 0 rfl) ?_
        refine va_iald hx hb hK hP (3 + k) 2 (x_at1 y r1 r2 G1 G2 (k := k) (by omega)) rfl (vp_in_nI (n := j) (by omega) (by decide)) dX3_fillOne_25 ?_
        refine lv_topi (fun i_3 ei_3 => ?_)
        rw [nI_clamp (n := j) (by omega)] at ei_3
        refine lv_iadd hx hb dX3_fillOne_26 ?_
        refine lv_topi (fun i_4 ei_4 => ?_)
        refine lv_aload_n hx hb dX3_fillOne_27 rfl (lv_at hl 1 rfl) ?_
        refine va_get (D := D) (ci := 2) (v := .ref o1) (C := RX3) (T := TX3) (N := 3) hx hb hts inX3 hown hK hP 0 rfl rfl 0 (by decide) fl13 (fun _ h9 => h9) rfl dX3_fillOne_28 ?_
        refine lv_iload_n hx hb dX3_fillOne_31 rfl (lv_at hl 3 rfl) ?_
        refine lv_iconst (v := 1) hx hb dX3_fillOne_32 (by decide) ?_
        refine lv_isub hx hb dX3_fillOne_33 ?_
        refine lv_topi (fun i_5 ei_5 => ?_)
        obtain rfl : i_5 = (nI (k - 1)) := ei_5.trans (pk_sub (a := k) (b := 1) (by omega))
        refine x_ald2 (k := (k - 1)) hx hb hK hP 1 5 rfl rfl (by omega) dX3_fillOne_34 ?_
        refine lv_iload_n hx hb dX3_fillOne_35 rfl (lv_at hl 2 rfl) ?_
        refine lv_iload_n hx hb dX3_fillOne_36 rfl (lv_at hl 0 rfl) ?_
        refine lv_isub hx hb dX3_fillOne_37 ?_
        refine lv_topi (fun i_6 ei_6 => ?_)
        obtain rfl : i_6 = (nI (n - j)) := ei_6.trans (pk_sub (a := n) (b := j) (by omega))
        refine va_iald hx hb hK hP (3 + (k - 1)) 2 (x_at1 y r1 r2 G1 G2 (k := (k - 1)) (by omega)) rfl (vp_in_nI (n := (n - j)) (by omega) (by decide)) dX3_fillOne_38 ?_
        refine lv_topi (fun i_7 ei_7 => ?_)
        rw [nI_clamp (n := (n - j)) (by omega)] at ei_7
        refine lv_iadd hx hb dX3_fillOne_39 ?_
        refine lv_topi (fun i_8 ei_8 => ?_)
        refine lv_istore (lv' := [(4, .int i_8), (3, .int (nI j)), (0, .ref h0), (1, .int (nI n)), (2, .int (nI k))]) hx hb dX3_fillOne_40 hl (by decide) rfl (fun ls hl => ?_)
        have hc : i_8 = nI (gc k n j) := by rw [ei_8, ei_4, ei_3, ei_7, hG1, hG1, if_neg (by omega), if_neg (by omega), hF j hj1 hjn, hF1 (n - j) (by omega) (by omega), nI_add, nI_add]; rfl
        have hlt : gc k n j < 20000 := gc_lt hk2 hk10 hn100 hjn
        have htp := (gs_top (c := gc k n) (j - 1)).1
        have e1 : gs (gc k n) j = if gc k n j < (gs (gc k n) (j - 1)).1 then (gc k n j, j) else gs (gc k n) (j - 1) := by obtain ⟨q, rfl⟩ : ∃ q, j = q + 1 := ⟨j - 1, by omega⟩; exact gs_step _ q
        refine lv_iload hx hb dX3_fillOne_42 (lv_at hl 0 rfl) ?_
        refine lv_aload_n hx hb dX3_fillOne_44 rfl (lv_at hl 2 rfl) ?_
        refine va_get (D := D) (ci := 2) (v := .ref o1) (C := RX3) (T := TX3) (N := 3) hx hb hts inX3 hown hK hP 0 rfl rfl 0 (by decide) fl13 (fun _ h9 => h9) rfl dX3_fillOne_45 ?_
        refine lv_iload_n hx hb dX3_fillOne_48 rfl (lv_at hl 4 rfl) ?_
        refine x_ald2 (k := k) hx hb hK hP 1 5 rfl rfl (by omega) dX3_fillOne_49 ?_
        refine lv_iload_n hx hb dX3_fillOne_50 rfl (lv_at hl 3 rfl) ?_
        refine va_iald hx hb hK hP (3 + k) 2 (x_at1 y r1 r2 G1 G2 (k := k) (by omega)) rfl (vp_in_nI (n := n) (by omega) (by decide)) dX3_fillOne_51 ?_
        refine lv_topi (fun i_9 ei_9 => ?_)
        rw [nI_clamp (n := n) (by omega)] at ei_9
        rw [hG1, if_pos ⟨rfl, rfl⟩] at ei_9
        refine lv_icmp_ge (tgt := 74) hx hb dX3_fillOne_52 (by decide) (fun c_10 => ?_) (fun c_10 => ?_)
        · have hno : ¬ gc k n j < (gs (gc k n) (j - 1)).1 := by rw [hc, ei_9] at c_10; have h := (nI_leI (by omega) (by omega)).mp c_10; omega
          have e2 : gs (gc k n) (j + 1 - 1) = gs (gc k n) (j - 1) := by rw [Nat.add_sub_cancel, e1, if_neg hno]
          refine lv_iinc (v := (nI (j + 1))) (lv' := [(3, .int (nI (j + 1))), (4, .int i_8), (0, .ref h0), (1, .int (nI n)), (2, .int (nI k))]) hx hb dX3_fillOne_74 hl (k := 1) rfl (nI_1 j) (by decide) rfl (fun ls hl => ?_)
          refine lv_goto (tgt := 12) hx hb dX3_fillOne_77 (by decide) ?_
          exact ih (j + 1) G1 G2 H locs ls (by omega) (by omega) (by intro a b; rw [e2]; exact hG1 a b) hG2 (by intro _; rw [e2]; exact hG3 ((Nat.lt_or_ge 1 j).elim id (fun q => absurd (show gc k n j < (gs (gc k n) (j - 1)).1 by rw [show j - 1 = 0 by omega]; show gc k n j < 1000000; omega) hno))) (by (try dsimp only); (try simp only [lg_cmp_lt, lg_cmp_le, lg_cmp_gt, lg_cmp_ge] at *); (try simp only [x_lt, x_le, Int32.reduceToInt, x_ltL, x_leL, Int64.reduceToInt] at *); omega) (x_subP hP [0, 1, 2, 3, 4, 5, 6, 7, 8, 9, 10, 11, 12, 13, 14, 15, 16, 17, 18, 19, 20, 21, 22, 23, 24] rfl) (x_subD hD [0, 1, 2, 3, 4, 5, 6, 7, 8, 9, 10, 11, 12, 13, 14, 15, 16, 17, 18, 19, 20, 21, 22, 23, 24] rfl (by decide)) hS (lv_sub hl [0, 2, 3, 4] rfl)
        · have hye : gc k n j < (gs (gc k n) (j - 1)).1 := by rw [hc, ei_9] at c_10; have h := mt (nI_leI (by omega) (by omega)).mpr c_10; omega
          have e2 : gs (gc k n) (j + 1 - 1) = (gc k n j, j) := by rw [Nat.add_sub_cancel, e1, if_pos hye]
          refine lv_aload_n hx hb dX3_fillOne_55 rfl (lv_at hl 2 rfl) ?_
          refine va_get (D := D) (ci := 2) (v := .ref o1) (C := RX3) (T := TX3) (N := 3) hx hb hts inX3 hown hK hP 0 rfl rfl 0 (by decide) fl13 (fun _ h9 => h9) rfl dX3_fillOne_56 ?_
          refine lv_iload_n hx hb dX3_fillOne_59 rfl (lv_at hl 4 rfl) ?_
          refine x_ald2 (k := k) hx hb hK hP 1 5 rfl rfl (by omega) dX3_fillOne_60 ?_
          refine lv_iload_n hx hb dX3_fillOne_61 rfl (lv_at hl 3 rfl) ?_
          refine lv_iload hx hb dX3_fillOne_62 (lv_at hl 0 rfl) ?_
          refine va_iast hx hb hK hP hD hS (3 + k) 2 (x_at1 y r1 r2 G1 G2 (k := k) (by omega)) rfl (vp_in_nI (n := n) (by omega) (by decide)) dX3_fillOne_64 (fun H locs hP hD hS => ?_)
          rw [x_set1 y r1 r2 G1 G2 _ (k := k) (by omega), nI_clamp (n := n) (by omega)] at hP hD
          obtain ⟨G_11, eG_11⟩ : ∃ z : Nat → Nat → Int32, z = (va_up G1 k (upd (G1 k) n i_8)) := ⟨_, rfl⟩
          rw [← eG_11] at hP hD
          have hP : va_P D vwCl ([(h0, .inr (2, [.ref o1, .ref o2, .int fi])), (o1, .inl (y 5, 11, .inr (.inr (.inr (.inr (xG r1)))))), (o2, .inl (y 5, 11, .inr (.inr (.inr (.inr (xG r2))))))] ++ (xR y r1 G_11 ++ xR y r2 G2)) H := hP
          have hD : va_D A ([(h0, .inr (2, [.ref o1, .ref o2, .int fi])), (o1, .inl (y 5, 11, .inr (.inr (.inr (.inr (xG r1)))))), (o2, .inl (y 5, 11, .inr (.inr (.inr (.inr (xG r2))))))] ++ (xR y r1 G_11 ++ xR y r2 G2)) := hD
          refine lv_aload_n hx hb dX3_fillOne_65 rfl (lv_at hl 2 rfl) ?_
          refine va_get (D := D) (ci := 2) (v := .ref o2) (C := RX3) (T := TX3) (N := 3) hx hb hts inX3 hown hK hP 0 rfl rfl 1 (by decide) fl16 (fun _ h9 => h9) rfl dX3_fillOne_66 ?_
          refine lv_iload_n hx hb dX3_fillOne_69 rfl (lv_at hl 4 rfl) ?_
          refine x_ald2 (k := k) hx hb hK hP 2 5 rfl rfl (by omega) dX3_fillOne_70 ?_
          refine lv_iload_n hx hb dX3_fillOne_71 rfl (lv_at hl 3 rfl) ?_
          refine lv_iload_n hx hb dX3_fillOne_72 rfl (lv_at hl 1 rfl) ?_
          refine va_iast hx hb hK hP hD hS (14 + k) 2 (x_at2 y r1 r2 G_11 G2 (k := k) (by omega)) rfl (vp_in_nI (n := n) (by omega) (by decide)) dX3_fillOne_73 (fun H locs hP hD hS => ?_)
          rw [x_set2 y r1 r2 G_11 G2 _ (k := k) (by omega), nI_clamp (n := n) (by omega)] at hP hD
          obtain ⟨G_12, eG_12⟩ : ∃ z : Nat → Nat → Int32, z = (va_up G2 k (upd (G2 k) n (nI j))) := ⟨_, rfl⟩
          rw [← eG_12] at hP hD
          have hP : va_P D vwCl ([(h0, .inr (2, [.ref o1, .ref o2, .int fi])), (o1, .inl (y 5, 11, .inr (.inr (.inr (.inr (xG r1)))))), (o2, .inl (y 5, 11, .inr (.inr (.inr (.inr (xG r2))))))] ++ (xR y r1 G_11 ++ xR y r2 G_12)) H := hP
          have hD : va_D A ([(h0, .inr (2, [.ref o1, .ref o2, .int fi])), (o1, .inl (y 5, 11, .inr (.inr (.inr (.inr (xG r1)))))), (o2, .inl (y 5, 11, .inr (.inr (.inr (.inr (xG r2))))))] ++ (xR y r1 G_11 ++ xR y r2 G_12)) := hD
          refine lv_iinc (v := (nI (j + 1))) (lv' := [(3, .int (nI (j + 1))), (4, .int i_8), (0, .ref h0), (1, .int (nI n)), (2, .int (nI k))]) hx hb dX3_fillOne_74 hl (k := 1) rfl (nI_1 j) (by decide) rfl (fun ls hl => ?_)
          refine lv_goto (tgt := 12) hx hb dX3_fillOne_77 (by decide) ?_
          exact ih (j + 1) G_11 G_12 H locs ls (by omega) (by omega) (by intro a b; rw [e2, eG_11, x_pt, hc]; exact if h : a = k ∧ b = n then (by rw [if_pos h, if_pos h]) else (by rw [if_neg h, if_neg h, hG1, if_neg h])) (by intro a b h; rw [eG_12, x_pt, if_neg h]; exact hG2 a b h) (by intro _; rw [e2, eG_12, x_pt, if_pos ⟨rfl, rfl⟩]) (by (try dsimp only); (try simp only [lg_cmp_lt, lg_cmp_le, lg_cmp_gt, lg_cmp_ge] at *); (try simp only [x_lt, x_le, Int32.reduceToInt, x_ltL, x_leL, Int64.reduceToInt] at *); omega) (x_subP hP [0, 1, 2, 3, 4, 5, 6, 7, 8, 9, 10, 11, 12, 13, 14, 15, 16, 17, 18, 19, 20, 21, 22, 23, 24] rfl) (x_subD hD [0, 1, 2, 3, 4, 5, 6, 7, 8, 9, 10, 11, 12, 13, 14, 15, 16, 17, 18, 19, 20, 21, 22, 23, 24] rfl (by decide)) hS (lv_sub hl [0, 2, 3, 4] rfl)
  exact loop (n + 1) 1 G_1 F2 H locs ls (Nat.le_refl 1) (by omega) (by intro a b; rw [eG_1, x_pt]; rfl) (fun _ _ _ => rfl) (fun h => absurd h (by omega)) (by (try dsimp only); (try simp only [lg_cmp_lt, lg_cmp_le, lg_cmp_gt, lg_cmp_ge] at *); (try simp only [x_lt, x_le, Int32.reduceToInt, x_ltL, x_leL, Int64.reduceToInt] at *); omega) (x_subP hP [0, 1, 2, 3, 4, 5, 6, 7, 8, 9, 10, 11, 12, 13, 14, 15, 16, 17, 18, 19, 20, 21, 22, 23, 24] rfl) (x_subD hD [0, 1, 2, 3, 4, 5, 6, 7, 8, 9, 10, 11, 12, 13, 14, 15, 16, 17, 18, 19, 20, 21, 22, 23, 24] rfl (by decide)) hS (lv_sub hl [0, 1, 2, 3] rfl)

