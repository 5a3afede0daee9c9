theorem x_pt {F : Nat → Nat → Int32} {k n : Nat} {v : Int32} {a b : Nat} : va_up F k (upd (F k) n v) a b = if a = k ∧ b = n then v else F a b := by
  by_cases h : a = k
  · subst h
    rw [va_up_self]
    by_cases h2 : b = n
    · subst h2; simp [upd]
    · simp [upd, h2]
  · rw [va_up_ne _ _ h, if_neg (fun q => h q.1)]
theorem x_nat {x : Int32} {a b : Nat} (h1 : (a : Int) ≤ x.toInt) (h2 : x.toInt ≤ b) (hb : b < 2 ^ 31) : ∃ N : Nat, a ≤ N ∧ N ≤ b ∧ x = nI N :=
  ⟨x.toInt.toNat, by omega, by omega, by rw [x_eq, nI_toInt (by omega)]; omega⟩
/-- again(n, k), first(n, k) as they are answered -/
def ga (n k : Int32) : Int32 := if (1 ≤ n.toInt ∧ n.toInt ≤ 100) ∧ 1 ≤ k.toInt ∧ k.toInt ≤ 10 then nI (gg k.toInt.toNat n.toInt.toNat) else -1
def gb (n k : Int32) : Int32 := if (2 ≤ n.toInt ∧ n.toInt ≤ 100) ∧ 2 ≤ k.toInt ∧ k.toInt ≤ 10 then nI (gf k.toInt.toNat n.toInt.toNat) else -1
theorem ga_nI {N K : Nat} (h1 : 1 ≤ N) (h2 : N ≤ 100) (h3 : 1 ≤ K) (h4 : K ≤ 10) : ga (nI N) (nI K) = nI (gg K N) := by
  unfold ga
  rw [nI_toInt (by omega), nI_toInt (by omega), if_pos (by omega)]
  rfl
theorem gb_nI {N K : Nat} (h1 : 2 ≤ N) (h2 : N ≤ 100) (h3 : 2 ≤ K) (h4 : K ≤ 10) : gb (nI N) (nI K) = nI (gf K N) := by
  unfold gb
  rw [nI_toInt (by omega), nI_toInt (by omega), if_pos (by omega)]
  rfl
theorem dX3_canBe_0 : decode cX3_canBe 0 = .ok (.iload_n 0, 1) := by decide +kernel
theorem dX3_canBe_1 : decode cX3_canBe 1 = .ok (.iconst 1, 1) := by decide +kernel
theorem dX3_canBe_2 : decode cX3_canBe 2 = .ok (.if_icmp .lt 24, 3) := by decide +kernel
theorem dX3_canBe_5 : decode cX3_canBe 5 = .ok (.iload_n 0, 1) := by decide +kernel
theorem dX3_canBe_6 : decode cX3_canBe 6 = .ok (.bipush 100, 2) := by decide +kernel
theorem dX3_canBe_8 : decode cX3_canBe 8 = .ok (.if_icmp .gt 18, 3) := by decide +kernel
theorem dX3_canBe_11 : decode cX3_canBe 11 = .ok (.iload_n 1, 1) := by decide +kernel
theorem dX3_canBe_12 : decode cX3_canBe 12 = .ok (.iconst 1, 1) := by decide +kernel
theorem dX3_canBe_13 : decode cX3_canBe 13 = .ok (.if_icmp .lt 13, 3) := by decide +kernel
theorem dX3_canBe_16 : decode cX3_canBe 16 = .ok (.iload_n 1, 1) := by decide +kernel
theorem dX3_canBe_17 : decode cX3_canBe 17 = .ok (.bipush 10, 2) := by decide +kernel
theorem dX3_canBe_19 : decode cX3_canBe 19 = .ok (.if_icmp .gt 7, 3) := by decide +kernel
theorem dX3_canBe_22 : decode cX3_canBe 22 = .ok (.iconst 1, 1) := by decide +kernel
theorem dX3_canBe_23 : decode cX3_canBe 23 = .ok (.goto 4, 3) := by decide +kernel
theorem dX3_canBe_26 : decode cX3_canBe 26 = .ok (.iconst 0, 1) := by decide +kernel
theorem dX3_canBe_27 : decode cX3_canBe 27 = .ok (.ireturn, 1) := by decide +kernel
theorem dX3_fillOne_0 : decode cX3_fillOne 0 = .ok (.aload_n 0, 1) := by decide +kernel
theorem dX3_fillOne_1 : decode cX3_fillOne 1 = .ok (.getfield 13, 3) := by decide +kernel
theorem dX3_fillOne_4 : decode cX3_fillOne 4 = .ok (.iload_n 2, 1) := by decide +kernel
theorem dX3_fillOne_5 : decode cX3_fillOne 5 = .ok (.aaload, 1) := by decide +kernel
theorem dX3_fillOne_6 : decode cX3_fillOne 6 = .ok (.iload_n 1, 1) := by decide +kernel
theorem dX3_fillOne_7 : decode cX3_fillOne 7 = .ok (.ldc 34, 2) := by decide +kernel
theorem dX3_fillOne_9 : decode cX3_fillOne 9 = .ok (.iastore, 1) := by decide +kernel
theorem dX3_fillOne_10 : decode cX3_fillOne 10 = .ok (.iconst 1, 1) := by decide +kernel
theorem dX3_fillOne_11 : decode cX3_fillOne 11 = .ok (.istore_n 3, 1) := by decide +kernel
theorem dX3_fillOne_12 : decode cX3_fillOne 12 = .ok (.iload_n 3, 1) := by decide +kernel
theorem dX3_fillOne_13 : decode cX3_fillOne 13 = .ok (.iload_n 1, 1) := by decide +kernel
theorem dX3_fillOne_14 : decode cX3_fillOne 14 = .ok (.if_icmp .ge 66, 3) := by decide +kernel
theorem dX3_fillOne_17 : decode cX3_fillOne 17 = .ok (.iload_n 3, 1) := by decide +kernel
theorem dX3_fillOne_18 : decode cX3_fillOne 18 = .ok (.aload_n 0, 1) := by decide +kernel
theorem dX3_fillOne_19 : decode cX3_fillOne 19 = .ok (.getfield 13, 3) := by decide +kernel
theorem dX3_fillOne_22 : decode cX3_fillOne 22 = .ok (.iload_n 2, 1) := by decide +kernel
theorem dX3_fillOne_23 : decode cX3_fillOne 23 = .ok (.aaload, 1) := by decide +kernel
theorem dX3_fillOne_24 : decode cX3_fillOne 24 = .ok (.iload_n 3, 1) := by decide +kernel
theorem dX3_fillOne_25 : decode cX3_fillOne 25 = .ok (.iaload, 1) := by decide +kernel
theorem dX3_fillOne_26 : decode cX3_fillOne 26 = .ok (.iadd, 1) := by decide +kernel
theorem dX3_fillOne_27 : decode cX3_fillOne 27 = .ok (.aload_n 0, 1) := by decide +kernel
theorem dX3_fillOne_28 : decode cX3_fillOne 28 = .ok (.getfield 13, 3) := by decide +kernel
theorem dX3_fillOne_31 : decode cX3_fillOne 31 = .ok (.iload_n 2, 1) := by decide +kernel
theorem dX3_fillOne_32 : decode cX3_fillOne 32 = .ok (.iconst 1, 1) := by decide +kernel
theorem dX3_fillOne_33 : decode cX3_fillOne 33 = .ok (.isub, 1) := by decide +kernel
theorem dX3_fillOne_34 : decode cX3_fillOne 34 = .ok (.aaload, 1) := by decide +kernel
theorem dX3_fillOne_35 : decode cX3_fillOne 35 = .ok (.iload_n 1, 1) := by decide +kernel
theorem dX3_fillOne_36 : decode cX3_fillOne 36 = .ok (.iload_n 3, 1) := by decide +kernel
theorem dX3_fillOne_37 : decode cX3_fillOne 37 = .ok (.isub, 1) := by decide +kernel
theorem dX3_fillOne_38 : decode cX3_fillOne 38 = .ok (.iaload, 1) := by decide +kernel
theorem dX3_fillOne_39 : decode cX3_fillOne 39 = .ok (.iadd, 1) := by decide +kernel
theorem dX3_fillOne_40 : decode cX3_fillOne 40 = .ok (.istore 4, 2) := by decide +kernel
theorem dX3_fillOne_42 : decode cX3_fillOne 42 = .ok (.iload 4, 2) := by decide +kernel
theorem dX3_fillOne_44 : decode cX3_fillOne 44 = .ok (.aload_n 0, 1) := by decide +kernel
theorem dX3_fillOne_45 : decode cX3_fillOne 45 = .ok (.getfield 13, 3) := by decide +kernel
theorem dX3_fillOne_48 : decode cX3_fillOne 48 = .ok (.iload_n 2, 1) := by decide +kernel
theorem dX3_fillOne_49 : decode cX3_fillOne 49 = .ok (.aaload, 1) := by decide +kernel
theorem dX3_fillOne_50 : decode cX3_fillOne 50 = .ok (.iload_n 1, 1) := by decide +kernel
theorem dX3_fillOne_51 : decode cX3_fillOne 51 = .ok (.iaload, 1) := by decide +kernel
theorem dX3_fillOne_52 : decode cX3_fillOne 52 = .ok (.if_icmp .ge 22, 3) := by decide +kernel
theorem dX3_fillOne_55 : decode cX3_fillOne 55 = .ok (.aload_n 0, 1) := by decide +kernel
theorem dX3_fillOne_56 : decode cX3_fillOne 56 = .ok (.getfield 13, 3) := by decide +kernel
theorem dX3_fillOne_59 : decode cX3_fillOne 59 = .ok (.iload_n 2, 1) := by decide +kernel
theorem dX3_fillOne_60 : decode cX3_fillOne 60 = .ok (.aaload, 1) := by decide +kernel
theorem dX3_fillOne_61 : decode cX3_fillOne 61 = .ok (.iload_n 1, 1) := by decide +kernel
theorem dX3_fillOne_62 : decode cX3_fillOne 62 = .ok (.iload 4, 2) := by decide +kernel
theorem dX3_fillOne_64 : decode cX3_fillOne 64 = .ok (.iastore, 1) := by decide +kernel
theorem dX3_fillOne_65 : decode cX3_fillOne 65 = .ok (.aload_n 0, 1) := by decide +kernel
theorem dX3_fillOne_66 : decode cX3_fillOne 66 = .ok (.getfield 16, 3) := by decide +kernel
theorem dX3_fillOne_69 : decode cX3_fillOne 69 = .ok (.iload_n 2, 1) := by decide +kernel
theorem dX3_fillOne_70 : decode cX3_fillOne 70 = .ok (.aaload, 1) := by decide +kernel
theorem dX3_fillOne_71 : decode cX3_fillOne 71 = .ok (.iload_n 1, 1) := by decide +kernel
theorem dX3_fillOne_72 : decode cX3_fillOne 72 = .ok (.iload_n 3, 1) := by decide +kernel
theorem dX3_fillOne_73 : decode cX3_fillOne 73 = .ok (.iastore, 1) := by decide +kernel
theorem dX3_fillOne_74 : decode cX3_fillOne 74 = .ok (.iinc 3 1, 3) := by decide +kernel
theorem dX3_fillOne_77 : decode cX3_fillOne 77 = .ok (.goto (-65), 3) := by decide +kernel
theorem dX3_fillOne_80 : decode cX3_fillOne 80 = .ok (.return_, 1) := by decide +kernel
theorem dX3_fill_0 : decode cX3_fill 0 = .ok (.aload_n 0, 1) := by decide +kernel
theorem dX3_fill_1 : decode cX3_fill 1 = .ok (.getfield 26, 3) := by decide +kernel
theorem dX3_fill_4 : decode cX3_fill 4 = .ok (.ifCond .eq 4, 3) := by decide +kernel
theorem dX3_fill_7 : decode cX3_fill 7 = .ok (.return_, 1) := by decide +kernel
theorem dX3_fill_8 : decode cX3_fill 8 = .ok (.iconst 1, 1) := by decide +kernel
theorem dX3_fill_9 : decode cX3_fill 9 = .ok (.istore_n 1, 1) := by decide +kernel
theorem dX3_fill_10 : decode cX3_fill 10 = .ok (.iload_n 1, 1) := by decide +kernel
theorem dX3_fill_11 : decode cX3_fill 11 = .ok (.bipush 100, 2) := by decide +kernel
theorem dX3_fill_13 : decode cX3_fill 13 = .ok (.if_icmp .gt 24, 3) := by decide +kernel
theorem dX3_fill_16 : decode cX3_fill 16 = .ok (.aload_n 0, 1) := by decide +kernel
theorem dX3_fill_17 : decode cX3_fill 17 = .ok (.getfield 13, 3) := by decide +kernel
theorem dX3_fill_20 : decode cX3_fill 20 = .ok (.iconst 1, 1) := by decide +kernel
theorem dX3_fill_21 : decode cX3_fill 21 = .ok (.aaload, 1) := by decide +kernel
theorem dX3_fill_22 : decode cX3_fill 22 = .ok (.iload_n 1, 1) := by decide +kernel
theorem dX3_fill_23 : decode cX3_fill 23 = .ok (.iload_n 1, 1) := by decide +kernel
theorem dX3_fill_24 : decode cX3_fill 24 = .ok (.iload_n 1, 1) := by decide +kernel
theorem dX3_fill_25 : decode cX3_fill 25 = .ok (.iconst 1, 1) := by decide +kernel
theorem dX3_fill_26 : decode cX3_fill 26 = .ok (.isub, 1) := by decide +kernel
theorem dX3_fill_27 : decode cX3_fill 27 = .ok (.imul, 1) := by decide +kernel
theorem dX3_fill_28 : decode cX3_fill 28 = .ok (.iconst 2, 1) := by decide +kernel
theorem dX3_fill_29 : decode cX3_fill 29 = .ok (.idiv, 1) := by decide +kernel
theorem dX3_fill_30 : decode cX3_fill 30 = .ok (.iastore, 1) := by decide +kernel
theorem dX3_fill_31 : decode cX3_fill 31 = .ok (.iinc 1 1, 3) := by decide +kernel
theorem dX3_fill_34 : decode cX3_fill 34 = .ok (.goto (-24), 3) := by decide +kernel
theorem dX3_fill_37 : decode cX3_fill 37 = .ok (.iconst 2, 1) := by decide +kernel
theorem dX3_fill_38 : decode cX3_fill 38 = .ok (.istore_n 1, 1) := by decide +kernel
theorem dX3_fill_39 : decode cX3_fill 39 = .ok (.iload_n 1, 1) := by decide +kernel
theorem dX3_fill_40 : decode cX3_fill 40 = .ok (.bipush 10, 2) := by decide +kernel
theorem dX3_fill_42 : decode cX3_fill 42 = .ok (.if_icmp .gt 29, 3) := by decide +kernel
theorem dX3_fill_45 : decode cX3_fill 45 = .ok (.iconst 2, 1) := by decide +kernel
theorem dX3_fill_46 : decode cX3_fill 46 = .ok (.istore_n 2, 1) := by decide +kernel
theorem dX3_fill_47 : decode cX3_fill 47 = .ok (.iload_n 2, 1) := by decide +kernel
theorem dX3_fill_48 : decode cX3_fill 48 = .ok (.bipush 100, 2) := by decide +kernel
theorem dX3_fill_50 : decode cX3_fill 50 = .ok (.if_icmp .gt 15, 3) := by decide +kernel
theorem dX3_fill_53 : decode cX3_fill 53 = .ok (.aload_n 0, 1) := by decide +kernel
theorem dX3_fill_54 : decode cX3_fill 54 = .ok (.iload_n 2, 1) := by decide +kernel
theorem dX3_fill_55 : decode cX3_fill 55 = .ok (.iload_n 1, 1) := by decide +kernel
theorem dX3_fill_56 : decode cX3_fill 56 = .ok (.invokevirtual 30, 3) := by decide +kernel
theorem dX3_fill_59 : decode cX3_fill 59 = .ok (.iinc 2 1, 3) := by decide +kernel
theorem dX3_fill_62 : decode cX3_fill 62 = .ok (.goto (-15), 3) := by decide +kernel
theorem dX3_fill_65 : decode cX3_fill 65 = .ok (.iinc 1 1, 3) := by decide +kernel
theorem dX3_fill_68 : decode cX3_fill 68 = .ok (.goto (-29), 3) := by decide +kernel
theorem dX3_fill_71 : decode cX3_fill 71 = .ok (.aload_n 0, 1) := by decide +kernel
theorem dX3_fill_72 : decode cX3_fill 72 = .ok (.iconst 1, 1) := by decide +kernel
theorem dX3_fill_73 : decode cX3_fill 73 = .ok (.putfield 26, 3) := by decide +kernel
theorem dX3_fill_76 : decode cX3_fill 76 = .ok (.return_, 1) := by decide +kernel
theorem dX3_roundsAgain_0 : decode cX3_roundsAgain 0 = .ok (.iload_n 1, 1) := by decide +kernel
theorem dX3_roundsAgain_1 : decode cX3_roundsAgain 1 = .ok (.iload_n 2, 1) := by decide +kernel
theorem dX3_roundsAgain_2 : decode cX3_roundsAgain 2 = .ok (.invokestatic 19, 3) := by decide +kernel
theorem dX3_roundsAgain_5 : decode cX3_roundsAgain 5 = .ok (.ifCond .ne 5, 3) := by decide +kernel
theorem dX3_roundsAgain_8 : decode cX3_roundsAgain 8 = .ok (.iconst (-1), 1) := by decide +kernel
theorem dX3_roundsAgain_9 : decode cX3_roundsAgain 9 = .ok (.ireturn, 1) := by decide +kernel
theorem dX3_roundsAgain_10 : decode cX3_roundsAgain 10 = .ok (.aload_n 0, 1) := by decide +kernel
theorem dX3_roundsAgain_11 : decode cX3_roundsAgain 11 = .ok (.invokevirtual 23, 3) := by decide +kernel
theorem dX3_roundsAgain_14 : decode cX3_roundsAgain 14 = .ok (.aload_n 0, 1) := by decide +kernel
theorem dX3_roundsAgain_15 : decode cX3_roundsAgain 15 = .ok (.getfield 13, 3) := by decide +kernel
theorem dX3_roundsAgain_18 : decode cX3_roundsAgain 18 = .ok (.iload_n 2, 1) := by decide +kernel
theorem dX3_roundsAgain_19 : decode cX3_roundsAgain 19 = .ok (.aaload, 1) := by decide +kernel
theorem dX3_roundsAgain_20 : decode cX3_roundsAgain 20 = .ok (.iload_n 1, 1) := by decide +kernel
theorem dX3_roundsAgain_21 : decode cX3_roundsAgain 21 = .ok (.iaload, 1) := by decide +kernel
theorem dX3_roundsAgain_22 : decode cX3_roundsAgain 22 = .ok (.ireturn, 1) := by decide +kernel
theorem dX3_firstKept_0 : decode cX3_firstKept 0 = .ok (.iload_n 1, 1) := by decide +kernel
theorem dX3_firstKept_1 : decode cX3_firstKept 1 = .ok (.iload_n 2, 1) := by decide +kernel
theorem dX3_firstKept_2 : decode cX3_firstKept 2 = .ok (.invokestatic 19, 3) := by decide +kernel
theorem dX3_firstKept_5 : decode cX3_firstKept 5 = .ok (.ifCond .eq 13, 3) := by decide +kernel
theorem dX3_firstKept_8 : decode cX3_firstKept 8 = .ok (.iload_n 1, 1) := by decide +kernel
theorem dX3_firstKept_9 : decode cX3_firstKept 9 = .ok (.iconst 1, 1) := by decide +kernel
theorem dX3_firstKept_10 : decode cX3_firstKept 10 = .ok (.if_icmp .eq 8, 3) := by decide +kernel
theorem dX3_firstKept_13 : decode cX3_firstKept 13 = .ok (.iload_n 2, 1) := by decide +kernel
theorem dX3_firstKept_14 : decode cX3_firstKept 14 = .ok (.iconst 1, 1) := by decide +kernel
theorem dX3_firstKept_15 : decode cX3_firstKept 15 = .ok (.if_icmp .ne 5, 3) := by decide +kernel
theorem dX3_firstKept_18 : decode cX3_firstKept 18 = .ok (.iconst (-1), 1) := by decide +kernel
theorem dX3_firstKept_19 : decode cX3_firstKept 19 = .ok (.ireturn, 1) := by decide +kernel
theorem dX3_firstKept_20 : decode cX3_firstKept 20 = .ok (.aload_n 0, 1) := by decide +kernel
theorem dX3_firstKept_21 : decode cX3_firstKept 21 = .ok (.invokevirtual 23, 3) := by decide +kernel
theorem dX3_firstKept_24 : decode cX3_firstKept 24 = .ok (.aload_n 0, 1) := by decide +kernel
theorem dX3_firstKept_25 : decode cX3_firstKept 25 = .ok (.getfield 16, 3) := by decide +kernel
theorem dX3_firstKept_28 : decode cX3_firstKept 28 = .ok (.iload_n 2, 1) := by decide +kernel
theorem dX3_firstKept_29 : decode cX3_firstKept 29 = .ok (.aaload, 1) := by decide +kernel
theorem dX3_firstKept_30 : decode cX3_firstKept 30 = .ok (.iload_n 1, 1) := by decide +kernel
theorem dX3_firstKept_31 : decode cX3_firstKept 31 = .ok (.iaload, 1) := by decide +kernel
theorem dX3_firstKept_32 : decode cX3_firstKept 32 = .ok (.ireturn, 1) := by decide +kernel
theorem dX11_again_0 : decode cX11_again 0 = .ok (.aload_n 0, 1) := by decide +kernel
theorem dX11_again_1 : decode cX11_again 1 = .ok (.getfield 54, 3) := by decide +kernel
theorem dX11_again_4 : decode cX11_again 4 = .ok (.iload_n 1, 1) := by decide +kernel
theorem dX11_again_5 : decode cX11_again 5 = .ok (.iload_n 2, 1) := by decide +kernel
theorem dX11_again_6 : decode cX11_again 6 = .ok (.invokevirtual 244, 3) := by decide +kernel
theorem dX11_again_9 : decode cX11_again 9 = .ok (.ireturn, 1) := by decide +kernel
theorem dX11_first_0 : decode cX11_first 0 = .ok (.aload_n 0, 1) := by decide +kernel
theorem dX11_first_1 : decode cX11_first 1 = .ok (.getfield 54, 3) := by decide +kernel
theorem dX11_first_4 : decode cX11_first 4 = .ok (.iload_n 1, 1) := by decide +kernel
theorem dX11_first_5 : decode cX11_first 5 = .ok (.iload_n 2, 1) := by decide +kernel
theorem dX11_first_6 : decode cX11_first 6 = .ok (.invokevirtual 248, 3) := by decide +kernel
theorem dX11_first_9 : decode cX11_first 9 = .ok (.ireturn, 1) := by decide +kernel
def v_c_canBe : List Cond := .code yX3_canBe cX3_canBe 2 (some .boolean) :: []
set_option maxHeartbeats 4000000 in
set_option maxRecDepth 100000 in
theorem c_canBe (l : Launch) (D : va_G) (y : Nat → ClassId) (sz : Nat) (n k : Int32) : Met l yX3_canBe v_c_canBe ({ frames := 0, cells := 0, slots := 0, locals := 0 } : Room) (va_Pc [.int n, .int k] (xPre D (xT y) [] sz)) (va_Qi (fun (r : Int32) (_ : Unit) => (r = 1 ∧ (1 ≤ n.toInt ∧ n.toInt ≤ 100) ∧ 1 ≤ k.toInt ∧ k.toInt ≤ 10) ∨ (r = 0 ∧ ¬ ((1 ≤ n.toInt ∧ n.toInt ≤ 100) ∧ 1 ≤ k.toInt ∧ k.toInt ≤ 10))) (fun (u : Unit) => xB D (xT y) (va_A [] sz) []) (va_A [] sz)) 0 0 (va_A [] sz) := by
  refine x_meti (cc := cX3_canBe) (maxL := 2) (by decide) rfl (Nat.le_of_ble_eq_true rfl) ?_
  intro p e s m below meth c A H locs Q hx hb hml hown hts hr hlocks hmn hA hP hK hD hS ls hl hQ
  have hl : lv_has ls 2 [(0, .int n), (1, .int k)] := hl
  refine lv_iload_n hx hb dX3_canBe_0 rfl (lv_at hl 0 rfl) ?_
  refine lv_iconst (v := 1) hx hb dX3_canBe_1 (by decide) ?_
  refine lv_icmp_lt (tgt := 26) hx hb dX3_canBe_2 (by decide) (fun c_1 => ?_) (fun c_1 => ?_)
  · refine lv_iconst (v := 0) hx hb dX3_canBe_26 (by decide) ?_
    exact x_zret (v := 0) (u := ()) hx hb hr rfl (by first | exact Or.inl ⟨rfl, (by (try dsimp only); (try simp only [lg_cmp_lt, lg_cmp_le, lg_cmp_gt, lg_cmp_ge] at *); (try simp only [x_lt, x_le, Int32.reduceToInt, x_ltL, x_leL, Int64.reduceToInt] at *); omega), (by (try dsimp only); (try simp only [lg_cmp_lt, lg_cmp_le, lg_cmp_gt, lg_cmp_ge] at *); (try simp only [x_lt, x_le, Int32.reduceToInt, x_ltL, x_leL, Int64.reduceToInt] at *); omega), (by (try dsimp only); (try simp only [lg_cmp_lt, lg_cmp_le, lg_cmp_gt, lg_cmp_ge] at *); (try simp only [x_lt, x_le, Int32.reduceToInt, x_ltL, x_leL, Int64.reduceToInt] at *); omega)⟩ | exact Or.inr ⟨rfl, (by (try dsimp only); (try simp only [lg_cmp_lt, lg_cmp_le, lg_cmp_gt, lg_cmp_ge] at *); (try simp only [x_lt, x_le, Int32.reduceToInt, x_ltL, x_leL, Int64.reduceToInt] at *); omega)⟩) hP hD hK hS [] rfl (by decide) dX3_canBe_27 hlocks hQ
  · refine lv_iload_n hx hb dX3_canBe_5 rfl (lv_at hl 0 rfl) ?_
    refine lv_bipush (v := 100) hx hb dX3_canBe_6 (by decide) ?_
    refine lv_icmp_gt (tgt := 26) hx hb dX3_canBe_8 (by decide) (fun c_2 => ?_) (fun c_2 => ?_)
    · refine lv_iconst (v := 0) hx hb dX3_canBe_26 (by decide) ?_
      exact x_zret (v := 0) (u := ()) hx hb hr rfl (by first | exact Or.inl ⟨rfl, (by (try dsimp only); (try simp only [lg_cmp_lt, lg_cmp_le, lg_cmp_gt, lg_cmp_ge] at *); (try simp only [x_lt, x_le, Int32.reduceToInt, x_ltL, x_leL, Int64.reduceToInt] at *); omega), (by (try dsimp only); (try simp only [lg_cmp_lt, lg_cmp_le, lg_cmp_gt, lg_cmp_ge] at *); (try simp only [x_lt, x_le, Int32.reduceToInt, x_ltL, x_leL, Int64.reduceToInt] at *); omega), (by (try dsimp only); (try simp only [lg_cmp_lt, lg_cmp_le, lg_cmp_gt, lg_cmp_ge] at *); (try simp only [x_lt, x_le, Int32.reduceToInt, x_ltL, x_leL, Int64.reduceToInt] at *); omega)⟩ | exact Or.inr ⟨rfl, (by (try dsimp only); (try simp only [lg_cmp_lt, lg_cmp_le, lg_cmp_gt, lg_cmp_ge] at *); (try simp only [x_lt, x_le, Int32.reduceToInt, x_ltL, x_leL, Int64.reduceToInt] at *); omega)⟩) hP hD hK hS [] rfl (by decide) dX3_canBe_27 hlocks hQ
    · refine lv_iload_n hx hb dX3_canBe_11 rfl (lv_at hl 1 rfl) ?_
      refine lv_iconst (v := 1) hx hb dX3_canBe_12 (by decide) ?_
      refine lv_icmp_lt (tgt := 26) hx hb dX3_canBe_13 (by decide) (fun c_3 => ?_) (fun c_3 => ?_)
      · refine lv_iconst (v := 0) hx hb dX3_canBe_26 (by decide) ?_
        exact x_zret (v := 0) (u := ()) hx hb hr rfl (by first | exact Or.inl ⟨rfl, (by (try dsimp only); (try simp only [lg_cmp_lt, lg_cmp_le, lg_cmp_gt, lg_cmp_ge] at *); (try simp only [x_lt, x_le, Int32.reduceToInt, x_ltL, x_leL, Int64.reduceToInt] at *); omega), (by (try dsimp only); (try simp only [lg_cmp_lt, lg_cmp_le, lg_cmp_gt, lg_cmp_ge] at *); (try simp only [x_lt, x_le, Int32.reduceToInt, x_ltL, x_leL, Int64.reduceToInt] at *); omega), (by (try dsimp only); (try simp only [lg_cmp_lt, lg_cmp_le, lg_cmp_gt, lg_cmp_ge] at *); (try simp only [x_lt, x_le, Int32.reduceToInt, x_ltL, x_leL, Int64.reduceToInt] at *); omega)⟩ | exact Or.inr ⟨rfl, (by (try dsimp only); (try simp only [lg_cmp_lt, lg_cmp_le, lg_cmp_gt, lg_cmp_ge] at *); (try simp only [x_lt, x_le, Int32.reduceToInt, x_ltL, x_leL, Int64.reduceToInt] at *); omega)⟩) hP hD hK hS [] rfl (by decide) dX3_canBe_27 hlocks hQ
      · refine lv_iload_n hx hb dX3_canBe_16 rfl (lv_at hl 1 rfl) ?_
        refine lv_bipush (v := 10) hx hb dX3_canBe_17 (by decide) ?_
        refine lv_icmp_gt (tgt := 26) hx hb dX3_canBe_19 (by decide) (fun c_4 => ?_) (fun c_4 => ?_)
        · refine lv_iconst (v := 0) hx hb dX3_canBe_26 (by decide) ?_
          exact x_zret (v := 0) (u := ()) hx hb hr rfl (by first | exact Or.inl ⟨rfl, (by (try dsimp only); (try simp only [lg_cmp_lt, lg_cmp_le, lg_cmp_gt, lg_cmp_ge] at *); (try simp only [x_lt, x_le, Int32.reduceToInt, x_ltL, x_leL, Int64.reduceToInt] at *); omega), (by (try dsimp only); (try simp only [lg_cmp_lt, lg_cmp_le, lg_cmp_gt, lg_cmp_ge] at *); (try simp only [x_lt, x_le, Int32.reduceToInt, x_ltL, x_leL, Int64.reduceToInt] at *); omega), (by (try dsimp only); (try simp only [lg_cmp_lt, lg_cmp_le, lg_cmp_gt, lg_cmp_ge] at *); (try simp only [x_lt, x_le, Int32.reduceToInt, x_ltL, x_leL, Int64.reduceToInt] at *); omega)⟩ | exact Or.inr ⟨rfl, (by (try dsimp only); (try simp only [lg_cmp_lt, lg_cmp_le, lg_cmp_gt, lg_cmp_ge] at *); (try simp only [x_lt, x_le, Int32.reduceToInt, x_ltL, x_leL, Int64.reduceToInt] at *); omega)⟩) hP hD hK hS [] rfl (by decide) dX3_canBe_27 hlocks hQ
        · refine lv_iconst (v := 1) hx hb dX3_canBe_22 (by decide) ?_
          refine lv_goto (tgt := 27) hx hb dX3_canBe_23 (by decide) ?_
          exact x_zret (v := 1) (u := ()) hx hb hr rfl (by first | exact Or.inl ⟨rfl, (by (try dsimp only); (try simp only [lg_cmp_lt, lg_cmp_le, lg_cmp_gt, lg_cmp_ge] at *); (try simp only [x_lt, x_le, Int32.reduceToInt, x_ltL, x_leL, Int64.reduceToInt] at *); omega), (by (try dsimp only); (try simp only [lg_cmp_lt, lg_cmp_le, lg_cmp_gt, lg_cmp_ge] at *); (try simp only [x_lt, x_le, Int32.reduceToInt, x_ltL, x_leL, Int64.reduceToInt] at *); omega), (by (try dsimp only); (try simp only [lg_cmp_lt, lg_cmp_le, lg_cmp_gt, lg_cmp_ge] at *); (try simp only [x_lt, x_le, Int32.reduceToInt, x_ltL, x_leL, Int64.reduceToInt] at *); omega)⟩ | exact Or.inr ⟨rfl, (by (try dsimp only); (try simp only [lg_cmp_lt, lg_cmp_le, lg_cmp_gt, lg_cmp_ge] at *); (try simp only [x_lt, x_le, Int32.reduceToInt, x_ltL, x_leL, Int64.reduceToInt] at *); omega)⟩) hP hD hK hS [] rfl (by decide) dX3_canBe_27 hlocks hQ

def v_c_fillOne : List Cond := .code yX3_fillOne cX3_fillOne 5 none :: ([.fieldLink RX3 13 "SlopeRunner$Keepers" "least" "[[I", .fieldLink RX3 16 "SlopeRunner$Keepers" "firstAt" "[[I", .constant RX3 34 1000000] ++ wsX30)
set_option maxHeartbeats 4000000 in
set_option maxRecDepth 100000 in
theorem c_fillOne (l : Launch) (D : va_G) (y : Nat → ClassId) (sz : Nat) (h0 o1 o2 : Nat) (r1 r2 : Nat → Nat) (fi : Int32) (F1 F2 : Nat → Nat → Int32) (n k : Nat) (hk2 : 2 ≤ k) (hk10 : k ≤ 10) (hn2 : 2 ≤ n) (hn100 : n ≤ 100) (hF : ∀ m, 1 ≤ m → m < n → F1 k m = nI (gg k m)) (hF1 : ∀ m, 1 ≤ m → m ≤ 100 → F1 (k - 1) m = nI (gg (k - 1) m)) : Met l yX3_fillOne v_c_fillOne ({ frames := 0, cells := 0, slots := 0, locals := 0 } : Room) (va_Pc [.ref h0, .int (nI n), .int (nI k)] (xPre D (xT y) ([(h0, .inr (2, [.ref o1, .ref o2, .int fi])), (o1, .inl (y 5, 11, .inr (.inr (.inr (.inr (xG r1)))))), (o2, .inl (y 5, 11, .inr (.inr (.inr (.inr (xG r2))))))] ++ (xR y r1 F1 ++ xR y r2 F2)) sz)) (va_Qv (fun (u : (Nat → Nat → Int32) × (Nat → Nat → Int32)) => (∀ a b : Nat, u.1 a b = if a = k ∧ b = n then nI (gg k n) else F1 a b) ∧ (∀ a b : Nat, u.2 a b = if a = k ∧ b = n then nI (gf k n) else F2 a b)) (fun (u : (Nat → Nat → Int32) × (Nat → Nat → Int32)) => xB D (xT y) (va_A ([(h0, .inr (2, [.ref o1, .ref o2, .int fi])), (o1, .inl (y 5, 11, .inr (.inr (.inr (.inr (xG r1)))))), (o2, .inl (y 5, 11, .inr (.inr (.inr (.inr (xG r2))))))] ++ (xR y r1 F1 ++ xR y r2 F2)) sz) ([(h0, .inr (2, [.ref o1, .ref o2, .int fi])), (o1, .inl (y 5, 11, .inr (.inr (.inr (.inr (xG r1)))))), (o2, .inl (y 5, 11, .inr (.inr (.inr (.inr (xG r2))))))] ++ (xR y r1 u.1 ++ xR y r2 u.2))) (va_A ([(h0, .inr (2, [.ref o1, .ref o2, .int fi])), (o1, .inl (y 5, 11, .inr (.inr (.inr (.inr (xG r1)))))), (o2, .inl (y 5, 11, .inr (.inr (.inr (.inr (xG r2))))))] ++ (xR y r1 F1 ++ xR y r2 F2)) sz)) 0 0 (va_A ([(h0, .inr (2, [.ref o1, .ref o2, .int fi])), (o1, .inl (y 5, 11, .inr (.inr (.inr (.inr (xG r1)))))), (o2, .inl (y 5, 11, .inr (.inr (.inr (.inr (xG r2))))))] ++ (xR y r1 F1 ++ xR y r2 F2)) sz) := by
  refine x_metv (cc := cX3_fillOne) (maxL := 5) (by decide) rfl (Nat.le_of_ble_eq_true rfl) ?_
  intro p e s m below meth c A H locs Q hx hb hml hown hts hr hlocks hmn hA hP hK hD hS ls hl hQ
  have hl : lv_has ls 5 [(0, .ref h0), (1, .int (nI n)), (2, .int (nI k))] := hl
  have fl13 := hts (.fieldLink RX3 13 "SlopeRunner$Keepers" "least" "[[I") (by decide +kernel)
  have inX3 : ∀ w ∈ wsX30, w ∈ v_c_fillOne := (fun w h => List.mem_cons_of_mem _ (List.mem_append_right _ h))
  have fl16 := hts (.fieldLink RX3 16 "SlopeRunner$Keepers" "firstAt" "[[I") (by decide +kernel)
  refine lv_aload_n hx hb dX3_fillOne_0 rfl (lv_at hl 0 rfl) ?_
  refine va_get (D := D) (ci := 2) (v := .ref o1) (C := RX3) (T := TX3) (N := 3) hx hb hts inX3 hown hK hP 0 rfl rfl 0 (by decide) fl13 (fun _ h9 => h9) rfl dX3_fillOne_1 ?_
  refine lv_iload_n hx hb dX3_fillOne_4 rfl (lv_at hl 2 rfl) ?_
  refine x_ald2 (k := k) hx hb hK hP 1 5 rfl rfl (by omega) dX3_fillOne_5 ?_
  refine lv_iload_n hx hb dX3_fillOne_6 rfl (lv_at hl 1 rfl) ?_
  refine lv_ldc (v := 1000000) hx hb hown (hts (.constant RX3 34 1000000) (by decide +kernel)) dX3_fillOne_7 ?_
  refine va_iast hx hb hK hP hD hS (3 + k) 2 (x_at1 y r1 r2 F1 F2 (k := k) (by omega)) rfl (vp_in_nI (n := n) (by omega) (by decide)) dX3_fillOne_9 (fun H locs hP hD hS => ?_)
  rw [x_set1 y r1 r2 F1 F2 _ (k := k) (by omega), nI_clamp (n := n) (by omega)] at hP hD
  obtain ⟨G_1, eG_1⟩ : ∃ z : Nat → Nat → Int32, z = (va_up F1 k (upd (F1 k) n 1000000)) := ⟨_, rfl⟩
  rw [← eG_1] at hP hD
  have hP : va_P D vwCl ([(h0, .inr (2, [.ref o1, .ref o2, .int fi])), (o1, .inl (y 5, 11, .inr (.inr (.inr (.inr (xG r1)))))), (o2, .inl (y 5, 11, .inr (.inr (.inr (.inr (xG r2))))))] ++ (xR y r1 G_1 ++ xR y r2 F2)) H := hP
  have hD : va_D A ([(h0, .inr (2, [.ref o1, .ref o2, .int fi])), (o1, .inl (y 5, 11, .inr (.inr (.inr (.inr (xG r1)))))), (o2, .inl (y 5, 11, .inr (.inr (.inr (.inr (xG r2))))))] ++ (xR y r1 G_1 ++ xR y r2 F2)) := hD
  refine lv_iconst (v := 1) hx hb dX3_fillOne_10 (by decide) ?_
  refine lv_istore_n (lv' := [(3, .int 1), (0, .ref h0), (1, .int (nI n)), (2, .int (nI k))]) hx hb dX3_fillOne_11 rfl hl (by decide) rfl (fun ls hl => ?_)
  have loop : ∀ (fu : Nat) (j : Nat) (G1 : (Nat → Nat → Int32)) (G2 : (Nat → Nat → Int32)) (H : Heap) (locs : List Loc) (ls : Array Slot), (1 ≤ j) → (j ≤ n) → (∀ a b : Nat, G1 a b = if a = k ∧ b = n then nI (gs (gc k n) (j - 1)).1 else F1 a b) → (∀ a b : Nat, ¬ (a = k ∧ b = n) → G2 a b = F2 a b) → (2 ≤ j → G2 k n = nI (gs (gc k n) (j - 1)).2) → ((n : Int) - j < (fu : Int)) → va_P D vwCl ([(h0, .inr (2, [.ref o1, .ref o2, .int fi])), (o1, .inl (y 5, 11, .inr (.inr (.inr (.inr (xG r1)))))), (o2, .inl (y 5, 11, .inr (.inr (.inr (.inr (xG r2))))))] ++ (xR y r1 G1 ++ xR y r2 G2)) H → va_D A ([(h0, .inr (2, [.ref o1, .ref o2, .int fi])), (o1, .inl (y 5, 11, .inr (.inr (.inr (.inr (xG r1)))))), (o2, .inl (y 5, 11, .inr (.inr (.inr (.inr (xG r2))))))] ++ (xR y r1 G1 ++ xR y r2 G2)) → va_S A s.heap H locs → lv_has ls 5 [(3, .int (nI j)), (0, .ref h0), (1, .int (nI n)), (2, .int (nI k))] → W p l e ({ frames := 0, cells := 0, slots := 0, locals := 0 } : Room) s m ([.ref h0, .int (nI n), .int (nI k)] : List Value).toArray below meth c H locs 0 0 Q (F0 m 12 ls []) := by
    intro fu
    induction fu with
    | zero =>
      intro j G1 G2 H locs ls hj1 hj2 hG1 hG2 hG3 hm
      exact absurd hm (by omega)
    | succ fu ih_loop =>
      intro j G1 G2 H locs ls hj1 hj2 hG1 hG2 hG3 hm hP hD hS hl
      refine lv_iload_n hx hb dX3_fillOne_12 rfl (lv_at hl 0 rfl) ?_
      refine lv_iload_n hx hb dX3_fillOne_13 rfl (lv_at hl 2 rfl) ?_
      refine lv_icmp_ge (tgt := 80) hx hb dX3_fillOne_14 (by decide) (fun c_2 => ?_) (fun c_2 => ?_)
      · have hjn : j = n := by have h := (nI_leI (by omega) (by omega)).mp c_2; omega
        rw [hjn] at hG1 hG3
        exact x_vret (u := (G1, G2)) hx hb hr ⟨fun a b => by show G1 a b = _; rw [hG1, gg_step hk2 hn2], fun a b => by show G2 a b = _; exact if h : a = k ∧ b = n then (by rw [if_pos h, h.1, h.2, hG3 hn2]; rfl) else (by rw [if_neg h, hG2 a b h])⟩ hP hD hK hS [0, 1, 2, 3, 4, 5, 6, 7, 8, 9, 10, 11, 12, 13, 14, 15, 16, 17, 18, 19, 20, 21, 22, 23, 24] rfl (by decide) dX3_fillOne_80 hlocks hQ
      · have hjn : j < n := by have h := mt (nI_leI (by omega) (by omega)).mpr c_2; omega
        refine lv_iload_n hx hb dX3_fillOne_17 rfl (lv_at hl 0 rfl) ?_
        refine lv_aload_n hx hb dX3_fillOne_18 rfl (lv_at hl 1 rfl) ?_
        refine va_get (D := D) (ci := 2) (v := .ref o1) (C := RX3) (T := TX3) (N := 3) hx hb hts inX3 hown hK hP 0 rfl rfl 0 (by decide) fl13 (fun _ h9 => h9) rfl dX3_fillOne_19 ?_
        refine lv_iload_n hx hb dX3_fillOne_22 rfl (lv_at hl 3 rfl) ?_
        refine x_ald2 (k := k) hx hb hK hP 1 5 rfl rfl (by omega) dX3_fillOne_23 ?_
        refine lv_iload_n hx hb dX3_fillOne_24 rfl (lv_at hl 0 rfl) ?_
        refine va_iald hx hb hK hP (3 + k) 2 (x_at1 y r1 r2 G1 G2 (k := k) (by omega)) rfl (vp_in_nI (n := j) (by omega) (by decide)) dX3_fillOne_25 ?_
        refine lv_topi (fun i_3 ei_3 => ?_)
        rw [nI_clamp (n := j) (by omega)] at ei_3
        refine lv_iadd hx hb dX3_fillOne_26 ?_
        refine lv_topi (fun i_4 ei_4 => ?_)
        refine lv_aload_n hx hb dX3_fillOne_27 rfl (lv_at hl 1 rfl) ?_
        refine va_get (D := D) (ci := 2) (v := .ref o1) (C := RX3) (T := TX3) (N := 3) hx hb hts inX3 hown hK hP 0 rfl rfl 0 (by decide) fl13 (fun _ h9 => h9) rfl dX3_fillOne_28 ?_
        refine lv_iload_n hx hb dX3_fillOne_31 rfl (lv_at hl 3 rfl) ?_
        refine lv_iconst (v := 1) hx hb dX3_fillOne_32 (by decide) ?_
        refine lv_isub hx hb dX3_fillOne_33 ?_
        refine lv_topi (fun i_5 ei_5 => ?_)
        obtain rfl : i_5 = (nI (k - 1)) := ei_5.trans (pk_sub (a := k) (b := 1) (by omega))
        refine x_ald2 (k := (k - 1)) hx hb hK hP 1 5 rfl rfl (by omega) dX3_fillOne_34 ?_
        refine lv_iload_n hx hb dX3_fillOne_35 rfl (lv_at hl 2 rfl) ?_
        refine lv_iload_n hx hb dX3_fillOne_36 rfl (lv_at hl 0 rfl) ?_
        refine lv_isub hx hb dX3_fillOne_37 ?_
        refine lv_topi (fun i_6 ei_6 => ?_)
        obtain rfl : i_6 = (nI (n - j)) := ei_6.trans (pk_sub (a := n) (b := j) (by omega))
        refine va_iald hx hb hK hP (3 + (k - 1)) 2 (x_at1 y r1 r2 G1 G2 (k := (k - 1)) (by omega)) rfl (vp_in_nI (n := (n - j)) (by omega) (by decide)) dX3_fillOne_38 ?_
        refine lv_topi (fun i_7 ei_7 => ?_)
        rw [nI_clamp (n := (n - j)) (by omega)] at ei_7
        refine lv_iadd hx hb dX3_fillOne_39 ?_
        refine lv_topi (fun i_8 ei_8 => ?_)
        refine lv_istore (lv' := [(4, .int i_8), (3, .int (nI j)), (0, .ref h0), (1, .int (nI n)), (2, .int (nI k))]) hx hb dX3_fillOne_40 hl (by decide) rfl (fun ls hl => ?_)
        have hc : i_8 = nI (gc k n j) := by rw [ei_8, ei_4, ei_3, ei_7, hG1, hG1, if_neg (by omega), if_neg (by omega), hF j hj1 hjn, hF1 (n - j) (by omega) (by omega), nI_add, nI_add]; rfl
        have hlt : gc k n j < 20000 := gc_lt hk2 hk10 hn100 hjn
        have htp := (gs_top (c := gc k n) (j - 1)).1
        have e1 : gs (gc k n) j = if gc k n j < (gs (gc k n) (j - 1)).1 then (gc k n j, j) else gs (gc k n) (j - 1) := by obtain ⟨q, rfl⟩ : ∃ q, j = q + 1 := ⟨j - 1, by omega⟩; exact gs_step _ q
        refine lv_iload hx hb dX3_fillOne_42 (lv_at hl 0 rfl) ?_
        refine lv_aload_n hx hb dX3_fillOne_44 rfl (lv_at hl 2 rfl) ?_
        refine va_get (D := D) (ci := 2) (v := .ref o1) (C := RX3) (T := TX3) (N := 3) hx hb hts inX3 hown hK hP 0 rfl rfl 0 (by decide) fl13 (fun _ h9 => h9) rfl dX3_fillOne_45 ?_
        refine lv_iload_n hx hb dX3_fillOne_48 rfl (lv_at hl 4 rfl) ?_
        refine x_ald2 (k := k) hx hb hK hP 1 5 rfl rfl (by omega) dX3_fillOne_49 ?_
        refine lv_iload_n hx hb dX3_fillOne_50 rfl (lv_at hl 3 rfl) ?_
        refine va_iald hx hb hK hP (3 + k) 2 (x_at1 y r1 r2 G1 G2 (k := k) (by omega)) rfl (vp_in_nI (n := n) (by omega) (by decide)) dX3_fillOne_51 ?_
        refine lv_topi (fun i_9 ei_9 => ?_)
        rw [nI_clamp (n := n) (by omega)] at ei_9
        rw [hG1, if_pos ⟨rfl, rfl⟩] at ei_9
        refine lv_icmp_ge (tgt := 74) hx hb dX3_fillOne_52 (by decide) (fun c_10 => ?_) (fun c_10 => ?_)
        · have hno : ¬ gc k n j < (gs (gc k n) (j - 1)).1 := by rw [hc, ei_9] at c_10; have h := (nI_leI (by omega) (by omega)).mp c_10; omega
          have e2 : gs (gc k n) (j + 1 - 1) = gs (gc k n) (j - 1) := by rw [Nat.add_sub_cancel, e1, if_neg hno]
          refine lv_iinc (v := (nI (j + 1))) (lv' := [(3, .int (nI (j + 1))), (4, .int i_8), (0, .ref h0), (1, .int (nI n)), (2, .int (nI k))]) hx hb dX3_fillOne_74 hl (k := 1) rfl (nI_1 j) (by decide) rfl (fun ls hl => ?_)
          refine lv_goto (tgt := 12) hx hb dX3_fillOne_77 (by decide) ?_
          exact ih_loop (j + 1) G1 G2 H locs ls (by omega) (by omega) (by intro a b; rw [e2]; exact hG1 a b) hG2 (by intro _; rw [e2]; exact hG3 ((Nat.lt_or_ge 1 j).elim id (fun q => absurd (show gc k n j < (gs (gc k n) (j - 1)).1 by rw [show j - 1 = 0 by omega]; show gc k n j < 1000000; omega) hno))) (by (try dsimp only); (try simp only [lg_cmp_lt, lg_cmp_le, lg_cmp_gt, lg_cmp_ge] at *); (try simp only [x_lt, x_le, Int32.reduceToInt, x_ltL, x_leL, Int64.reduceToInt] at *); omega) (x_subP hP [0, 1, 2, 3, 4, 5, 6, 7, 8, 9, 10, 11, 12, 13, 14, 15, 16, 17, 18, 19, 20, 21, 22, 23, 24] rfl) (x_subD hD [0, 1, 2, 3, 4, 5, 6, 7, 8, 9, 10, 11, 12, 13, 14, 15, 16, 17, 18, 19, 20, 21, 22, 23, 24] rfl (by decide)) hS (lv_sub hl [0, 2, 3, 4] rfl)
        · have hye : gc k n j < (gs (gc k n) (j - 1)).1 := by rw [hc, ei_9] at c_10; have h := mt (nI_leI (by omega) (by omega)).mpr c_10; omega
          have e2 : gs (gc k n) (j + 1 - 1) = (gc k n j, j) := by rw [Nat.add_sub_cancel, e1, if_pos hye]
          refine lv_aload_n hx hb dX3_fillOne_55 rfl (lv_at hl 2 rfl) ?_
          refine va_get (D := D) (ci := 2) (v := .ref o1) (C := RX3) (T := TX3) (N := 3) hx hb hts inX3 hown hK hP 0 rfl rfl 0 (by decide) fl13 (fun _ h9 => h9) rfl dX3_fillOne_56 ?_
          refine lv_iload_n hx hb dX3_fillOne_59 rfl (lv_at hl 4 rfl) ?_
          refine x_ald2 (k := k) hx hb hK hP 1 5 rfl rfl (by omega) dX3_fillOne_60 ?_
          refine lv_iload_n hx hb dX3_fillOne_61 rfl (lv_at hl 3 rfl) ?_
          refine lv_iload hx hb dX3_fillOne_62 (lv_at hl 0 rfl) ?_
          refine va_iast hx hb hK hP hD hS (3 + k) 2 (x_at1 y r1 r2 G1 G2 (k := k) (by omega)) rfl (vp_in_nI (n := n) (by omega) (by decide)) dX3_fillOne_64 (fun H locs hP hD hS => ?_)
          rw [x_set1 y r1 r2 G1 G2 _ (k := k) (by omega), nI_clamp (n := n) (by omega)] at hP hD
          obtain ⟨G_11, eG_11⟩ : ∃ z : Nat → Nat → Int32, z = (va_up G1 k (upd (G1 k) n i_8)) := ⟨_, rfl⟩
          rw [← eG_11] at hP hD
          have hP : va_P D vwCl ([(h0, .inr (2, [.ref o1, .ref o2, .int fi])), (o1, .inl (y 5, 11, .inr (.inr (.inr (.inr (xG r1)))))), (o2, .inl (y 5, 11, .inr (.inr (.inr (.inr (xG r2))))))] ++ (xR y r1 G_11 ++ xR y r2 G2)) H := hP
          have hD : va_D A ([(h0, .inr (2, [.ref o1, .ref o2, .int fi])), (o1, .inl (y 5, 11, .inr (.inr (.inr (.inr (xG r1)))))), (o2, .inl (y 5, 11, .inr (.inr (.inr (.inr (xG r2))))))] ++ (xR y r1 G_11 ++ xR y r2 G2)) := hD
          refine lv_aload_n hx hb dX3_fillOne_65 rfl (lv_at hl 2 rfl) ?_
          refine va_get (D := D) (ci := 2) (v := .ref o2) (C := RX3) (T := TX3) (N := 3) hx hb hts inX3 hown hK hP 0 rfl rfl 1 (by decide) fl16 (fun _ h9 => h9) rfl dX3_fillOne_66 ?_
          refine lv_iload_n hx hb dX3_fillOne_69 rfl (lv_at hl 4 rfl) ?_
          refine x_ald2 (k := k) hx hb hK hP 2 5 rfl rfl (by omega) dX3_fillOne_70 ?_
          refine lv_iload_n hx hb dX3_fillOne_71 rfl (lv_at hl 3 rfl) ?_
          refine lv_iload_n hx hb dX3_fillOne_72 rfl (lv_at hl 1 rfl) ?_
          refine va_iast hx hb hK hP hD hS (14 + k) 2 (x_at2 y r1 r2 G_11 G2 (k := k) (by omega)) rfl (vp_in_nI (n := n) (by omega) (by decide)) dX3_fillOne_73 (fun H locs hP hD hS => ?_)
          rw [x_set2 y r1 r2 G_11 G2 _ (k := k) (by omega), nI_clamp (n := n) (by omega)] at hP hD
          obtain ⟨G_12, eG_12⟩ : ∃ z : Nat → Nat → Int32, z = (va_up G2 k (upd (G2 k) n (nI j))) := ⟨_, rfl⟩
          rw [← eG_12] at hP hD
          have hP : va_P D vwCl ([(h0, .inr (2, [.ref o1, .ref o2, .int fi])), (o1, .inl (y 5, 11, .inr (.inr (.inr (.inr (xG r1)))))), (o2, .inl (y 5, 11, .inr (.inr (.inr (.inr (xG r2))))))] ++ (xR y r1 G_11 ++ xR y r2 G_12)) H := hP
          have hD : va_D A ([(h0, .inr (2, [.ref o1, .ref o2, .int fi])), (o1, .inl (y 5, 11, .inr (.inr (.inr (.inr (xG r1)))))), (o2, .inl (y 5, 11, .inr (.inr (.inr (.inr (xG r2))))))] ++ (xR y r1 G_11 ++ xR y r2 G_12)) := hD
          refine lv_iinc (v := (nI (j + 1))) (lv' := [(3, .int (nI (j + 1))), (4, .int i_8), (0, .ref h0), (1, .int (nI n)), (2, .int (nI k))]) hx hb dX3_fillOne_74 hl (k := 1) rfl (nI_1 j) (by decide) rfl (fun ls hl => ?_)
          refine lv_goto (tgt := 12) hx hb dX3_fillOne_77 (by decide) ?_
          exact ih_loop (j + 1) G_11 G_12 H locs ls (by omega) (by omega) (by intro a b; rw [e2, eG_11, x_pt, hc]; exact if h : a = k ∧ b = n then (by rw [if_pos h, if_pos h]) else (by rw [if_neg h, if_neg h, hG1, if_neg h])) (by intro a b h; rw [eG_12, x_pt, if_neg h]; exact hG2 a b h) (by intro _; rw [e2, eG_12, x_pt, if_pos ⟨rfl, rfl⟩]) (by (try dsimp only); (try simp only [lg_cmp_lt, lg_cmp_le, lg_cmp_gt, lg_cmp_ge] at *); (try simp only [x_lt, x_le, Int32.reduceToInt, x_ltL, x_leL, Int64.reduceToInt] at *); omega) (x_subP hP [0, 1, 2, 3, 4, 5, 6, 7, 8, 9, 10, 11, 12, 13, 14, 15, 16, 17, 18, 19, 20, 21, 22, 23, 24] rfl) (x_subD hD [0, 1, 2, 3, 4, 5, 6, 7, 8, 9, 10, 11, 12, 13, 14, 15, 16, 17, 18, 19, 20, 21, 22, 23, 24] rfl (by decide)) hS (lv_sub hl [0, 2, 3, 4] rfl)
  exact loop (n + 1) 1 G_1 F2 H locs ls (Nat.le_refl 1) (by omega) (by intro a b; rw [eG_1, x_pt]; rfl) (fun _ _ _ => rfl) (fun h => absurd h (by omega)) (by (try dsimp only); (try simp only [lg_cmp_lt, lg_cmp_le, lg_cmp_gt, lg_cmp_ge] at *); (try simp only [x_lt, x_le, Int32.reduceToInt, x_ltL, x_leL, Int64.reduceToInt] at *); omega) (x_subP hP [0, 1, 2, 3, 4, 5, 6, 7, 8, 9, 10, 11, 12, 13, 14, 15, 16, 17, 18, 19, 20, 21, 22, 23, 24] rfl) (x_subD hD [0, 1, 2, 3, 4, 5, 6, 7, 8, 9, 10, 11, 12, 13, 14, 15, 16, 17, 18, 19, 20, 21, 22, 23, 24] rfl (by decide)) hS (lv_sub hl [0, 1, 2, 3] rfl)

def v_c_fill0 : List Cond := .code yX3_fill cX3_fill 3 none :: ([.fieldLink RX3 26 "SlopeRunner$Keepers" "filled" "Z", .fieldLink RX3 13 "SlopeRunner$Keepers" "least" "[[I"] ++ ((wsV RX3 30 RX3 yX3_fillOne v_c_fillOne) ++ wsX30))
theorem g_c_fill0_0 : GoodIn v_c_fill0 (wsV RX3 30 RX3 yX3_fillOne v_c_fillOne) := goodIn_sub (fun w h => List.mem_cons_of_mem _ (List.mem_append_right _ (List.mem_append_left _ h))) (by decide +kernel)
set_option maxHeartbeats 4000000 in
set_option maxRecDepth 100000 in
theorem c_fill0 (l : Launch) (D : va_G) (y : Nat → ClassId) (sz : Nat) (h0 o1 o2 : Nat) (r1 r2 : Nat → Nat) (F1 F2 : Nat → Nat → Int32) (hz : ∀ a : Nat, 2 ≤ a → a ≤ 10 → F1 a 1 = 0) : Met l yX3_fill v_c_fill0 ({ frames := 1, cells := 0, slots := 0, locals := 24 } : Room) (va_Pc [.ref h0] (xPre D (xT y) ([(h0, .inr (2, [.ref o1, .ref o2, .int 0])), (o1, .inl (y 5, 11, .inr (.inr (.inr (.inr (xG r1)))))), (o2, .inl (y 5, 11, .inr (.inr (.inr (.inr (xG r2))))))] ++ (xR y r1 F1 ++ xR y r2 F2)) sz)) (va_Qv (fun (u : (Nat → Nat → Int32) × (Nat → Nat → Int32)) => (∀ a b : Nat, 1 ≤ a → a ≤ 10 → 1 ≤ b → b ≤ 100 → u.1 a b = nI (gg a b)) ∧ (∀ a b : Nat, 2 ≤ a → a ≤ 10 → 2 ≤ b → b ≤ 100 → u.2 a b = nI (gf a b))) (fun (u : (Nat → Nat → Int32) × (Nat → Nat → Int32)) => xB D (xT y) (va_A ([(h0, .inr (2, [.ref o1, .ref o2, .int 0])), (o1, .inl (y 5, 11, .inr (.inr (.inr (.inr (xG r1)))))), (o2, .inl (y 5, 11, .inr (.inr (.inr (.inr (xG r2))))))] ++ (xR y r1 F1 ++ xR y r2 F2)) sz) ([(h0, .inr (2, [.ref o1, .ref o2, .int 1])), (o1, .inl (y 5, 11, .inr (.inr (.inr (.inr (xG r1)))))), (o2, .inl (y 5, 11, .inr (.inr (.inr (.inr (xG r2))))))] ++ (xR y r1 u.1 ++ xR y r2 u.2))) (va_A ([(h0, .inr (2, [.ref o1, .ref o2, .int 0])), (o1, .inl (y 5, 11, .inr (.inr (.inr (.inr (xG r1)))))), (o2, .inl (y 5, 11, .inr (.inr (.inr (.inr (xG r2))))))] ++ (xR y r1 F1 ++ xR y r2 F2)) sz)) 0 0 (va_A ([(h0, .inr (2, [.ref o1, .ref o2, .int 0])), (o1, .inl (y 5, 11, .inr (.inr (.inr (.inr (xG r1)))))), (o2, .inl (y 5, 11, .inr (.inr (.inr (.inr (xG r2))))))] ++ (xR y r1 F1 ++ xR y r2 F2)) sz) := by
  refine x_metv (cc := cX3_fill) (maxL := 3) (by decide) rfl (Nat.le_of_ble_eq_true rfl) ?_
  intro p e s m below meth c A H locs Q hx hb hml hown hts hr hlocks hmn hA hP hK hD hS ls hl hQ
  have hl : lv_has ls 3 [(0, .ref h0)] := hl
  have fl26 := hts (.fieldLink RX3 26 "SlopeRunner$Keepers" "filled" "Z") (by decide +kernel)
  have inX3 : ∀ w ∈ wsX30, w ∈ v_c_fill0 := (fun w h => List.mem_cons_of_mem _ (List.mem_append_right _ (List.mem_append_right _ h)))
  have fl13 := hts (.fieldLink RX3 13 "SlopeRunner$Keepers" "least" "[[I") (by decide +kernel)
  refine lv_aload_n hx hb dX3_fill_0 rfl (lv_at hl 0 rfl) ?_
  refine va_get (D := D) (ci := 2) (v := .int 0) (C := RX3) (T := TX3) (N := 3) hx hb hts inX3 hown hK hP 0 rfl rfl 2 (by decide) fl26 (fun _ h9 => h9) rfl dX3_fill_1 ?_
  refine lv_if_eq (tgt := 8) hx hb dX3_fill_4 (by decide) (fun c_1 => ?_) (fun c_1 => ?_)
  · refine lv_iconst (v := 1) hx hb dX3_fill_8 (by decide) ?_
    refine lv_istore_n (lv' := [(1, .int 1), (0, .ref h0)]) hx hb dX3_fill_9 rfl hl (by decide) rfl (fun ls hl => ?_)
    have loop1 : ∀ (fu : Nat) (j : Nat) (G1 : (Nat → Nat → Int32)) (H : Heap) (locs : List Loc) (ls : Array Slot), (1 ≤ j) → (j ≤ 101) → (∀ b : Nat, 1 ≤ b → b < j → G1 1 b = nI (gg 1 b)) → (∀ a : Nat, 2 ≤ a → a ≤ 10 → G1 a 1 = 0) → ((101 : Int) - j < (fu : Int)) → va_P D vwCl ([(h0, .inr (2, [.ref o1, .ref o2, .int 0])), (o1, .inl (y 5, 11, .inr (.inr (.inr (.inr (xG r1)))))), (o2, .inl (y 5, 11, .inr (.inr (.inr (.inr (xG r2))))))] ++ (xR y r1 G1 ++ xR y r2 F2)) H → va_D A ([(h0, .inr (2, [.ref o1, .ref o2, .int 0])), (o1, .inl (y 5, 11, .inr (.inr (.inr (.inr (xG r1)))))), (o2, .inl (y 5, 11, .inr (.inr (.inr (.inr (xG r2))))))] ++ (xR y r1 G1 ++ xR y r2 F2)) → va_S A s.heap H locs → lv_has ls 3 [(1, .int (nI j)), (0, .ref h0)] → W p l e ({ frames := 1, cells := 0, slots := 0, locals := 24 } : Room) s m ([.ref h0] : List Value).toArray below meth c H locs 0 0 Q (F0 m 10 ls []) := by
      intro fu
      induction fu with
      | zero =>
        intro j G1 H locs ls hj1 hj2 hAA hZ hm
        exact absurd hm (by omega)
      | succ fu ih_loop1 =>
        intro j G1 H locs ls hj1 hj2 hAA hZ hm hP hD hS hl
        refine lv_iload_n hx hb dX3_fill_10 rfl (lv_at hl 0 rfl) ?_
        refine lv_bipush (v := 100) hx hb dX3_fill_11 (by decide) ?_
        refine lv_icmp_gt (tgt := 37) hx hb dX3_fill_13 (by decide) (fun c_2 => ?_) (fun c_2 => ?_)
        · have hj3 : 100 < j := (nI_ltI (a := 100) (by omega) (by omega)).mp c_2
          refine lv_iconst (v := 2) hx hb dX3_fill_37 (by decide) ?_
          refine lv_istore_n (lv' := [(1, .int 2), (0, .ref h0)]) hx hb dX3_fill_38 rfl hl (by decide) rfl (fun ls hl => ?_)
          have loop2 : ∀ (fu : Nat) (q : Nat) (P1 : (Nat → Nat → Int32)) (P2 : (Nat → Nat → Int32)) (H : Heap) (locs : List Loc) (ls : Array Slot), (2 ≤ q) → (q ≤ 11) → (∀ a b : Nat, 1 ≤ a → a < q → 1 ≤ b → b ≤ 100 → P1 a b = nI (gg a b)) → (∀ a b : Nat, 2 ≤ a → a < q → 2 ≤ b → b ≤ 100 → P2 a b = nI (gf a b)) → (∀ a : Nat, 2 ≤ a → a ≤ 10 → P1 a 1 = 0) → ((11 : Int) - q < (fu : Int)) → va_P D vwCl ([(h0, .inr (2, [.ref o1, .ref o2, .int 0])), (o1, .inl (y 5, 11, .inr (.inr (.inr (.inr (xG r1)))))), (o2, .inl (y 5, 11, .inr (.inr (.inr (.inr (xG r2))))))] ++ (xR y r1 P1 ++ xR y r2 P2)) H → va_D A ([(h0, .inr (2, [.ref o1, .ref o2, .int 0])), (o1, .inl (y 5, 11, .inr (.inr (.inr (.inr (xG r1)))))), (o2, .inl (y 5, 11, .inr (.inr (.inr (.inr (xG r2))))))] ++ (xR y r1 P1 ++ xR y r2 P2)) → va_S A s.heap H locs → lv_has ls 3 [(1, .int (nI q)), (0, .ref h0)] → W p l e ({ frames := 1, cells := 0, slots := 0, locals := 24 } : Room) s m ([.ref h0] : List Value).toArray below meth c H locs 0 0 Q (F0 m 39 ls []) := by
            intro fu
            induction fu with
            | zero =>
              intro q P1 P2 H locs ls hK1 hK2 hB hC hZ2 hm
              exact absurd hm (by omega)
            | succ fu ih_loop2 =>
              intro q P1 P2 H locs ls hK1 hK2 hB hC hZ2 hm hP hD hS hl
              refine lv_iload_n hx hb dX3_fill_39 rfl (lv_at hl 0 rfl) ?_
              refine lv_bipush (v := 10) hx hb dX3_fill_40 (by decide) ?_
              refine lv_icmp_gt (tgt := 71) hx hb dX3_fill_42 (by decide) (fun c_3 => ?_) (fun c_3 => ?_)
              · have hq3 : 10 < q := (nI_ltI (a := 10) (by omega) (by omega)).mp c_3
                refine lv_aload_n hx hb dX3_fill_71 rfl (lv_at hl 1 rfl) ?_
                refine lv_iconst (v := 1) hx hb dX3_fill_72 (by decide) ?_
                refine va_put (D := D) (ci := 2) (v := .int 1) (ty := .boolean) (C := RX3) (T := TX3) (N := 3) hx hb hts inX3 tyX3 tyX3_ok nmX3 hown hK hP hD hS 0 rfl rfl 2 (by decide) fl26 (fun _ h9 => h9) rfl (by decide +kernel) rfl rfl (Nat.le_of_ble_eq_true rfl) dX3_fill_73 (fun H locs hP hD hS => ?_)
                have hP : va_P D vwCl ([(h0, .inr (2, [.ref o1, .ref o2, .int 1])), (o1, .inl (y 5, 11, .inr (.inr (.inr (.inr (xG r1)))))), (o2, .inl (y 5, 11, .inr (.inr (.inr (.inr (xG r2))))))] ++ (xR y r1 P1 ++ xR y r2 P2)) H := hP
                have hD : va_D A ([(h0, .inr (2, [.ref o1, .ref o2, .int 1])), (o1, .inl (y 5, 11, .inr (.inr (.inr (.inr (xG r1)))))), (o2, .inl (y 5, 11, .inr (.inr (.inr (.inr (xG r2))))))] ++ (xR y r1 P1 ++ xR y r2 P2)) := hD
                exact x_vret (u := (P1, P2)) hx hb hr ⟨fun a b h1 h2 h3 h4 => hB a b h1 (by omega) h3 h4, fun a b h1 h2 h3 h4 => hC a b h1 (by omega) h3 h4⟩ hP hD hK hS [0, 1, 2, 3, 4, 5, 6, 7, 8, 9, 10, 11, 12, 13, 14, 15, 16, 17, 18, 19, 20, 21, 22, 23, 24] rfl (by decide) dX3_fill_76 hlocks hQ
              · have hq3 : q ≤ 10 := by have h := mt (nI_ltI (a := 10) (by omega) (by omega)).mpr c_3; omega
                refine lv_iconst (v := 2) hx hb dX3_fill_45 (by decide) ?_
                refine lv_istore_n (lv' := [(2, .int 2), (1, .int (nI q)), (0, .ref h0)]) hx hb dX3_fill_46 rfl hl (by decide) rfl (fun ls hl => ?_)
                have loop3 : ∀ (fu : Nat) (t : Nat) (R1 : (Nat → Nat → Int32)) (R2 : (Nat → Nat → Int32)) (H : Heap) (locs : List Loc) (ls : Array Slot), (2 ≤ t) → (t ≤ 101) → (∀ b : Nat, 1 ≤ b → b < t → R1 q b = nI (gg q b)) → (∀ b : Nat, 2 ≤ b → b < t → R2 q b = nI (gf q b)) → (∀ a b : Nat, 1 ≤ a → a < q → 1 ≤ b → b ≤ 100 → R1 a b = nI (gg a b)) → (∀ a b : Nat, 2 ≤ a → a < q → 2 ≤ b → b ≤ 100 → R2 a b = nI (gf a b)) → (∀ a : Nat, 2 ≤ a → a ≤ 10 → R1 a 1 = 0) → ((101 : Int) - t < (fu : Int)) → va_P D vwCl ([(h0, .inr (2, [.ref o1, .ref o2, .int 0])), (o1, .inl (y 5, 11, .inr (.inr (.inr (.inr (xG r1)))))), (o2, .inl (y 5, 11, .inr (.inr (.inr (.inr (xG r2))))))] ++ (xR y r1 R1 ++ xR y r2 R2)) H → va_D A ([(h0, .inr (2, [.ref o1, .ref o2, .int 0])), (o1, .inl (y 5, 11, .inr (.inr (.inr (.inr (xG r1)))))), (o2, .inl (y 5, 11, .inr (.inr (.inr (.inr (xG r2))))))] ++ (xR y r1 R1 ++ xR y r2 R2)) → va_S A s.heap H locs → lv_has ls 3 [(2, .int (nI t)), (1, .int (nI q)), (0, .ref h0)] → W p l e ({ frames := 1, cells := 0, slots := 0, locals := 24 } : Room) s m ([.ref h0] : List Value).toArray below meth c H locs 0 0 Q (F0 m 47 ls []) := by
                  intro fu
                  induction fu with
                  | zero =>
                    intro t R1 R2 H locs ls ht1 ht2 hI hJ hB3 hC3 hZ3 hm
                    exact absurd hm (by omega)
                  | succ fu ih_loop3 =>
                    intro t R1 R2 H locs ls ht1 ht2 hI hJ hB3 hC3 hZ3 hm hP hD hS hl
                    refine lv_iload_n hx hb dX3_fill_47 rfl (lv_at hl 0 rfl) ?_
                    refine lv_bipush (v := 100) hx hb dX3_fill_48 (by decide) ?_
                    refine lv_icmp_gt (tgt := 65) hx hb dX3_fill_50 (by decide) (fun c_4 => ?_) (fun c_4 => ?_)
                    · have ht3 : 100 < t := (nI_ltI (a := 100) (by omega) (by omega)).mp c_4
                      refine lv_iinc (v := (nI (q + 1))) (lv' := [(1, .int (nI (q + 1))), (2, .int (nI t)), (0, .ref h0)]) hx hb dX3_fill_65 hl (k := 1) rfl (nI_1 q) (by decide) rfl (fun ls hl => ?_)
                      refine lv_goto (tgt := 39) hx hb dX3_fill_68 (by decide) ?_
                      exact ih_loop2 (q + 1) R1 R2 H locs ls (by omega) (by omega) (fun a b h1 h2 h3 h4 => if h : a = q then (by rw [h]; exact hI b h3 (by omega)) else hB3 a b h1 (by omega) h3 h4) (fun a b h1 h2 h3 h4 => if h : a = q then (by rw [h]; exact hJ b h3 (by omega)) else hC3 a b h1 (by omega) h3 h4) hZ3 (by (try dsimp only); (try simp only [lg_cmp_lt, lg_cmp_le, lg_cmp_gt, lg_cmp_ge] at *); (try simp only [x_lt, x_le, Int32.reduceToInt, x_ltL, x_leL, Int64.reduceToInt] at *); omega) (x_subP hP [0, 1, 2, 3, 4, 5, 6, 7, 8, 9, 10, 11, 12, 13, 14, 15, 16, 17, 18, 19, 20, 21, 22, 23, 24] rfl) (x_subD hD [0, 1, 2, 3, 4, 5, 6, 7, 8, 9, 10, 11, 12, 13, 14, 15, 16, 17, 18, 19, 20, 21, 22, 23, 24] rfl (by decide)) hS (lv_sub hl [0, 2] rfl)
                    · have ht3 : t ≤ 100 := by have h := mt (nI_ltI (a := 100) (by omega) (by omega)).mpr c_4; omega
                      refine lv_aload_n hx hb dX3_fill_53 rfl (lv_at hl 2 rfl) ?_
                      refine lv_iload_n hx hb dX3_fill_54 rfl (lv_at hl 0 rfl) ?_
                      refine lv_iload_n hx hb dX3_fill_55 rfl (lv_at hl 1 rfl) ?_
                      refine x_callv (w1 := fun (u : (Nat → Nat → Int32) × (Nat → Nat → Int32)) => ([(h0, .inr (2, [.ref o1, .ref o2, .int 0])), (o1, .inl (y 5, 11, .inr (.inr (.inr (.inr (xG r1)))))), (o2, .inl (y 5, 11, .inr (.inr (.inr (.inr (xG r2))))))] ++ (xR y r1 u.1 ++ xR y r2 u.2))) (wr := []) (ws' := fun (u : (Nat → Nat → Int32) × (Nat → Nat → Int32)) => ([(h0, .inr (2, [.ref o1, .ref o2, .int 0])), (o1, .inl (y 5, 11, .inr (.inr (.inr (.inr (xG r1)))))), (o2, .inl (y 5, 11, .inr (.inr (.inr (.inr (xG r2))))))] ++ (xR y r1 u.1 ++ xR y r2 u.2))) (va_runV (As := [.int (nI t), .int (nI q)]) (rest := []) ⟨hx, hb, hml, hown, hts⟩ (c_fillOne l D y H.size h0 o1 o2 r1 r2 0 R1 R2 t q (by omega) (by omega) (by omega) (by omega) (fun m h1 h2 => hI m h1 h2) (fun m h1 h2 => hB3 (q - 1) m (by omega) (by omega) h1 h2)) (cwV 2 hts g_c_fill0_0 rfl rfl rfl (by decide +kernel) ⟨Nat.le_of_ble_eq_true rfl, Nat.le_of_ble_eq_true rfl⟩) (x_preV (q := (RX3, TX3, 3)) hK (x_subP hP [0, 1, 2, 3, 4, 5, 6, 7, 8, 9, 10, 11, 12, 13, 14, 15, 16, 17, 18, 19, 20, 21, 22, 23, 24] rfl) (x_subD hD [0, 1, 2, 3, 4, 5, 6, 7, 8, 9, 10, 11, 12, 13, 14, 15, 16, 17, 18, 19, 20, 21, 22, 23, 24] rfl (by decide)) (ci := 2) (q0 := 0) rfl rfl) rfl rfl hl.1 rfl (lv_room (Nat.le_of_ble_eq_true rfl)) dX3_fill_56 ⟨Nat.le_of_ble_eq_true rfl, Nat.le_of_ble_eq_true rfl⟩) hP hD hS hA [0, 1, 2, 3, 4, 5, 6, 7, 8, 9, 10, 11, 12, 13, 14, 15, 16, 17, 18, 19, 20, 21, 22, 23, 24] [] rfl rfl (by decide) (by decide) [0, 1, 2, 3, 4, 5, 6, 7, 8, 9, 10, 11, 12, 13, 14, 15, 16, 17, 18, 19, 20, 21, 22, 23, 24] (fun _ => rfl) (by decide) (fun u H locs hw hP hD hS => ?_)
                      obtain ⟨G_5, G_6⟩ := u
                      try dsimp only at hw
                      obtain ⟨hw1, hw2⟩ := hw
                      have hP : va_P D vwCl ([(h0, .inr (2, [.ref o1, .ref o2, .int 0])), (o1, .inl (y 5, 11, .inr (.inr (.inr (.inr (xG r1)))))), (o2, .inl (y 5, 11, .inr (.inr (.inr (.inr (xG r2))))))] ++ (xR y r1 G_5 ++ xR y r2 G_6)) H := hP
                      have hD : va_D A ([(h0, .inr (2, [.ref o1, .ref o2, .int 0])), (o1, .inl (y 5, 11, .inr (.inr (.inr (.inr (xG r1)))))), (o2, .inl (y 5, 11, .inr (.inr (.inr (.inr (xG r2))))))] ++ (xR y r1 G_5 ++ xR y r2 G_6)) := hD
                      refine lv_iinc (v := (nI (t + 1))) (lv' := [(2, .int (nI (t + 1))), (1, .int (nI q)), (0, .ref h0)]) hx hb dX3_fill_59 hl (k := 0) rfl (nI_1 t) (by decide) rfl (fun ls hl => ?_)
                      refine lv_goto (tgt := 47) hx hb dX3_fill_62 (by decide) ?_
                      exact ih_loop3 (t + 1) G_5 G_6 H locs ls (by omega) (by omega) (by intro b h1 h2; rw [hw1]; exact if h : q = q ∧ b = t then (by rw [if_pos h, h.2]) else (by rw [if_neg h]; exact hI b h1 (by omega))) (by intro b h1 h2; rw [hw2]; exact if h : q = q ∧ b = t then (by rw [if_pos h, h.2]) else (by rw [if_neg h]; exact hJ b h1 (by omega))) (by intro a b h1 h2 h3 h4; rw [hw1, if_neg (by omega)]; exact hB3 a b h1 h2 h3 h4) (by intro a b h1 h2 h3 h4; rw [hw2, if_neg (by omega)]; exact hC3 a b h1 h2 h3 h4) (by intro a h1 h2; rw [hw1, if_neg (by omega)]; exact hZ3 a h1 h2) (by (try dsimp only); (try simp only [lg_cmp_lt, lg_cmp_le, lg_cmp_gt, lg_cmp_ge] at *); (try simp only [x_lt, x_le, Int32.reduceToInt, x_ltL, x_leL, Int64.reduceToInt] at *); omega) (x_subP hP [0, 1, 2, 3, 4, 5, 6, 7, 8, 9, 10, 11, 12, 13, 14, 15, 16, 17, 18, 19, 20, 21, 22, 23, 24] rfl) (x_subD hD [0, 1, 2, 3, 4, 5, 6, 7, 8, 9, 10, 11, 12, 13, 14, 15, 16, 17, 18, 19, 20, 21, 22, 23, 24] rfl (by decide)) hS (lv_sub hl [0, 1, 2] rfl)
                exact loop3 102 2 P1 P2 H locs ls (Nat.le_refl 2) (by decide) (by intro b h1 h2; rw [show b = 1 by omega, hZ2 q hK1 (by omega), gg_one (by omega)]; rfl) (fun b h1 h2 => absurd h2 (by omega)) hB hC hZ2 (by (try dsimp only); (try simp only [lg_cmp_lt, lg_cmp_le, lg_cmp_gt, lg_cmp_ge] at *); (try simp only [x_lt, x_le, Int32.reduceToInt, x_ltL, x_leL, Int64.reduceToInt] at *); omega) (x_subP hP [0, 1, 2, 3, 4, 5, 6, 7, 8, 9, 10, 11, 12, 13, 14, 15, 16, 17, 18, 19, 20, 21, 22, 23, 24] rfl) (x_subD hD [0, 1, 2, 3, 4, 5, 6, 7, 8, 9, 10, 11, 12, 13, 14, 15, 16, 17, 18, 19, 20, 21, 22, 23, 24] rfl (by decide)) hS (lv_sub hl [0, 1, 2] rfl)
          exact loop2 12 2 G1 F2 H locs ls (Nat.le_refl 2) (by decide) (by intro a b h1 h2 h3 h4; rw [show a = 1 by omega]; exact hAA b h3 (by omega)) (fun a b h1 h2 => absurd h2 (by omega)) hZ (by (try dsimp only); (try simp only [lg_cmp_lt, lg_cmp_le, lg_cmp_gt, lg_cmp_ge] at *); (try simp only [x_lt, x_le, Int32.reduceToInt, x_ltL, x_leL, Int64.reduceToInt] at *); omega) (x_subP hP [0, 1, 2, 3, 4, 5, 6, 7, 8, 9, 10, 11, 12, 13, 14, 15, 16, 17, 18, 19, 20, 21, 22, 23, 24] rfl) (x_subD hD [0, 1, 2, 3, 4, 5, 6, 7, 8, 9, 10, 11, 12, 13, 14, 15, 16, 17, 18, 19, 20, 21, 22, 23, 24] rfl (by decide)) hS (lv_sub hl [0, 1] rfl)
        · have hj3 : j ≤ 100 := by have h := mt (nI_ltI (a := 100) (by omega) (by omega)).mpr c_2; omega
          refine lv_aload_n hx hb dX3_fill_16 rfl (lv_at hl 1 rfl) ?_
          refine va_get (D := D) (ci := 2) (v := .ref o1) (C := RX3) (T := TX3) (N := 3) hx hb hts inX3 hown hK hP 0 rfl rfl 0 (by decide) fl13 (fun _ h9 => h9) rfl dX3_fill_17 ?_
          refine lv_iconst (v := 1) hx hb dX3_fill_20 (by decide) ?_
          refine x_ald2 (k := 1) hx hb hK hP 1 5 rfl rfl (by decide) dX3_fill_21 ?_
          refine lv_iload_n hx hb dX3_fill_22 rfl (lv_at hl 0 rfl) ?_
          refine lv_iload_n hx hb dX3_fill_23 rfl (lv_at hl 0 rfl) ?_
          refine lv_iload_n hx hb dX3_fill_24 rfl (lv_at hl 0 rfl) ?_
          refine lv_iconst (v := 1) hx hb dX3_fill_25 (by decide) ?_
          refine lv_isub hx hb dX3_fill_26 ?_
          refine lv_topi (fun i_7 ei_7 => ?_)
          obtain rfl : i_7 = (nI (j - 1)) := ei_7.trans (pk_sub (a := j) (b := 1) (by omega))
          refine lv_imul hx hb dX3_fill_27 ?_
          refine lv_topi (fun i_8 ei_8 => ?_)
          obtain rfl : i_8 = (nI (j * (j - 1))) := ei_8.trans (pk_mul j (j - 1))
          refine lv_iconst (v := 2) hx hb dX3_fill_28 (by decide) ?_
          refine lv_idiv hx hb dX3_fill_29 (by decide) ?_
          refine lv_topi (fun i_9 ei_9 => ?_)
          obtain rfl : i_9 = (nI ((j * (j - 1)) / 2)) := ei_9.trans (pk_div (a := (j * (j - 1))) (d := 2) (Nat.lt_of_le_of_lt (Nat.mul_le_mul (show j ≤ 100 by omega) (show j - 1 ≤ 99 by omega)) (by decide)) (by decide) (by decide))
          refine va_iast hx hb hK hP hD hS (3 + 1) 2 (x_at1 y r1 r2 G1 F2 (k := 1) (by decide)) rfl (vp_in_nI (n := j) (by omega) (by decide)) dX3_fill_30 (fun H locs hP hD hS => ?_)
          rw [x_set1 y r1 r2 G1 F2 _ (k := 1) (by decide), nI_clamp (n := j) (by omega)] at hP hD
          obtain ⟨G_10, eG_10⟩ : ∃ z : Nat → Nat → Int32, z = (va_up G1 1 (upd (G1 1) j (nI ((j * (j - 1)) / 2)))) := ⟨_, rfl⟩
          rw [← eG_10] at hP hD
          have hP : va_P D vwCl ([(h0, .inr (2, [.ref o1, .ref o2, .int 0])), (o1, .inl (y 5, 11, .inr (.inr (.inr (.inr (xG r1)))))), (o2, .inl (y 5, 11, .inr (.inr (.inr (.inr (xG r2))))))] ++ (xR y r1 G_10 ++ xR y r2 F2)) H := hP
          have hD : va_D A ([(h0, .inr (2, [.ref o1, .ref o2, .int 0])), (o1, .inl (y 5, 11, .inr (.inr (.inr (.inr (xG r1)))))), (o2, .inl (y 5, 11, .inr (.inr (.inr (.inr (xG r2))))))] ++ (xR y r1 G_10 ++ xR y r2 F2)) := hD
          refine lv_iinc (v := (nI (j + 1))) (lv' := [(1, .int (nI (j + 1))), (0, .ref h0)]) hx hb dX3_fill_31 hl (k := 0) rfl (nI_1 j) (by decide) rfl (fun ls hl => ?_)
          refine lv_goto (tgt := 10) hx hb dX3_fill_34 (by decide) ?_
          exact ih_loop1 (j + 1) G_10 H locs ls (by omega) (by omega) (by intro b h1 h2; rw [eG_10, x_pt]; exact if h : (1 : Nat) = 1 ∧ b = j then (by rw [if_pos h, h.2]; rfl) else (by rw [if_neg h]; exact hAA b h1 (by omega))) (by intro a h1 h2; rw [eG_10, x_pt, if_neg (by omega)]; exact hZ a h1 h2) (by (try dsimp only); (try simp only [lg_cmp_lt, lg_cmp_le, lg_cmp_gt, lg_cmp_ge] at *); (try simp only [x_lt, x_le, Int32.reduceToInt, x_ltL, x_leL, Int64.reduceToInt] at *); omega) (x_subP hP [0, 1, 2, 3, 4, 5, 6, 7, 8, 9, 10, 11, 12, 13, 14, 15, 16, 17, 18, 19, 20, 21, 22, 23, 24] rfl) (x_subD hD [0, 1, 2, 3, 4, 5, 6, 7, 8, 9, 10, 11, 12, 13, 14, 15, 16, 17, 18, 19, 20, 21, 22, 23, 24] rfl (by decide)) hS (lv_sub hl [0, 1] rfl)
    exact loop1 102 1 F1 H locs ls (Nat.le_refl 1) (by decide) (fun b h1 h2 => absurd h2 (by omega)) hz (by (try dsimp only); (try simp only [lg_cmp_lt, lg_cmp_le, lg_cmp_gt, lg_cmp_ge] at *); (try simp only [x_lt, x_le, Int32.reduceToInt, x_ltL, x_leL, Int64.reduceToInt] at *); omega) (x_subP hP [0, 1, 2, 3, 4, 5, 6, 7, 8, 9, 10, 11, 12, 13, 14, 15, 16, 17, 18, 19, 20, 21, 22, 23, 24] rfl) (x_subD hD [0, 1, 2, 3, 4, 5, 6, 7, 8, 9, 10, 11, 12, 13, 14, 15, 16, 17, 18, 19, 20, 21, 22, 23, 24] rfl (by decide)) hS (lv_sub hl [0, 1] rfl)
  · exact absurd (by decide) c_1

def v_c_roundsAgain0 : List Cond := .code yX3_roundsAgain cX3_roundsAgain 3 (some .int) :: ([.fieldLink RX3 13 "SlopeRunner$Keepers" "least" "[[I"] ++ ((wsS RX3 19 yX3_canBe v_c_canBe) ++ ((wsV RX3 23 RX3 yX3_fill v_c_fill0) ++ wsX30)))
theorem g_c_roundsAgain0_0 : GoodIn v_c_roundsAgain0 (wsS RX3 19 yX3_canBe v_c_canBe) := goodIn_sub (fun w h => List.mem_cons_of_mem _ (List.mem_append_right _ (List.mem_append_left _ h))) (by decide +kernel)
theorem g_c_roundsAgain0_1 : GoodIn v_c_roundsAgain0 (wsV RX3 23 RX3 yX3_fill v_c_fill0) := goodIn_sub (fun w h => List.mem_cons_of_mem _ (List.mem_append_right _ (List.mem_append_right _ (List.mem_append_left _ h)))) (by decide +kernel)
set_option maxHeartbeats 4000000 in
set_option maxRecDepth 100000 in
theorem c_roundsAgain0 (l : Launch) (D : va_G) (y : Nat → ClassId) (sz : Nat) (h0 o1 o2 : Nat) (r1 r2 : Nat → Nat) (F1 F2 : Nat → Nat → Int32) (n k : Int32) (hz : ∀ a : Nat, 2 ≤ a → a ≤ 10 → F1 a 1 = 0) : Met l yX3_roundsAgain v_c_roundsAgain0 ({ frames := 2, cells := 0, slots := 0, locals := 46 } : Room) (va_Pc [.ref h0, .int n, .int k] (xPre D (xT y) ([(h0, .inr (2, [.ref o1, .ref o2, .int 0])), (o1, .inl (y 5, 11, .inr (.inr (.inr (.inr (xG r1)))))), (o2, .inl (y 5, 11, .inr (.inr (.inr (.inr (xG r2))))))] ++ (xR y r1 F1 ++ xR y r2 F2)) sz)) (va_Qi (fun (r : Int32) (_ : Int32 × (Nat → Nat → Int32) × (Nat → Nat → Int32)) => r = ga n k) (fun (u : Int32 × (Nat → Nat → Int32) × (Nat → Nat → Int32)) => xB D (xT y) (va_A ([(h0, .inr (2, [.ref o1, .ref o2, .int 0])), (o1, .inl (y 5, 11, .inr (.inr (.inr (.inr (xG r1)))))), (o2, .inl (y 5, 11, .inr (.inr (.inr (.inr (xG r2))))))] ++ (xR y r1 F1 ++ xR y r2 F2)) sz) ([(h0, .inr (2, [.ref o1, .ref o2, .int u.1])), (o1, .inl (y 5, 11, .inr (.inr (.inr (.inr (xG r1)))))), (o2, .inl (y 5, 11, .inr (.inr (.inr (.inr (xG r2))))))] ++ (xR y r1 u.2.1 ++ xR y r2 u.2.2))) (va_A ([(h0, .inr (2, [.ref o1, .ref o2, .int 0])), (o1, .inl (y 5, 11, .inr (.inr (.inr (.inr (xG r1)))))), (o2, .inl (y 5, 11, .inr (.inr (.inr (.inr (xG r2))))))] ++ (xR y r1 F1 ++ xR y r2 F2)) sz)) 0 0 (va_A ([(h0, .inr (2, [.ref o1, .ref o2, .int 0])), (o1, .inl (y 5, 11, .inr (.inr (.inr (.inr (xG r1)))))), (o2, .inl (y 5, 11, .inr (.inr (.inr (.inr (xG r2))))))] ++ (xR y r1 F1 ++ xR y r2 F2)) sz) := by
  refine x_meti (cc := cX3_roundsAgain) (maxL := 3) (by decide) rfl (Nat.le_of_ble_eq_true rfl) ?_
  intro p e s m below meth c A H locs Q hx hb hml hown hts hr hlocks hmn hA hP hK hD hS ls hl hQ
  have hl : lv_has ls 3 [(0, .ref h0), (1, .int n), (2, .int k)] := hl
  have fl13 := hts (.fieldLink RX3 13 "SlopeRunner$Keepers" "least" "[[I") (by decide +kernel)
  have inX3 : ∀ w ∈ wsX30, w ∈ v_c_roundsAgain0 := (fun w h => List.mem_cons_of_mem _ (List.mem_append_right _ (List.mem_append_right _ (List.mem_append_right _ h))))
  refine lv_iload_n hx hb dX3_roundsAgain_0 rfl (lv_at hl 1 rfl) ?_
  refine lv_iload_n hx hb dX3_roundsAgain_1 rfl (lv_at hl 2 rfl) ?_
  refine x_calli (w1 := fun (u : Unit) => []) (wr := ([(h0, .inr (2, [.ref o1, .ref o2, .int 0])), (o1, .inl (y 5, 11, .inr (.inr (.inr (.inr (xG r1)))))), (o2, .inl (y 5, 11, .inr (.inr (.inr (.inr (xG r2))))))] ++ (xR y r1 F1 ++ xR y r2 F2))) (ws' := fun (u : Unit) => ([(h0, .inr (2, [.ref o1, .ref o2, .int 0])), (o1, .inl (y 5, 11, .inr (.inr (.inr (.inr (xG r1)))))), (o2, .inl (y 5, 11, .inr (.inr (.inr (.inr (xG r2))))))] ++ (xR y r1 F1 ++ xR y r2 F2))) (va_runS (As := [.int n, .int k]) (rest := []) ⟨hx, hb, hml, hown, hts⟩ (c_canBe l D y H.size n k) (cwS 2 hts g_c_roundsAgain0_0 rfl rfl rfl (by decide +kernel) ⟨Nat.le_of_ble_eq_true rfl, Nat.le_of_ble_eq_true rfl⟩) (x_preS hK (x_subP hP [] rfl) (x_subD hD [] rfl (by decide))) rfl rfl hl.1 rfl (lv_room (Nat.le_of_ble_eq_true rfl)) dX3_roundsAgain_2 ⟨Nat.le_of_ble_eq_true rfl, Nat.le_of_ble_eq_true rfl⟩) hP hD hS hA [] [0, 1, 2, 3, 4, 5, 6, 7, 8, 9, 10, 11, 12, 13, 14, 15, 16, 17, 18, 19, 20, 21, 22, 23, 24] rfl rfl (by decide) (by decide) [0, 1, 2, 3, 4, 5, 6, 7, 8, 9, 10, 11, 12, 13, 14, 15, 16, 17, 18, 19, 20, 21, 22, 23, 24] (fun _ => rfl) (by decide) (fun r_1 u H locs hw hP hD hS => ?_)
  try dsimp only at hw
  have hP : va_P D vwCl ([(h0, .inr (2, [.ref o1, .ref o2, .int 0])), (o1, .inl (y 5, 11, .inr (.inr (.inr (.inr (xG r1)))))), (o2, .inl (y 5, 11, .inr (.inr (.inr (.inr (xG r2))))))] ++ (xR y r1 F1 ++ xR y r2 F2)) H := hP
  have hD : va_D A ([(h0, .inr (2, [.ref o1, .ref o2, .int 0])), (o1, .inl (y 5, 11, .inr (.inr (.inr (.inr (xG r1)))))), (o2, .inl (y 5, 11, .inr (.inr (.inr (.inr (xG r2))))))] ++ (xR y r1 F1 ++ xR y r2 F2)) := hD
  rcases hw with ⟨rfl, g_2⟩ | ⟨rfl, g_2⟩
  · refine lv_if_ne (tgt := 10) hx hb dX3_roundsAgain_5 (by decide) (fun c_3 => ?_) (fun c_3 => ?_)
    · obtain ⟨N, hN1, hN2, rfl⟩ := x_nat (x := n) (a := 1) (b := 100) g_2.1.1 g_2.1.2 (by decide)
      obtain ⟨K, hK1, hK2, rfl⟩ := x_nat (x := k) (a := 1) (b := 10) g_2.2.1 g_2.2.2 (by decide)
      clear g_2
      refine lv_aload_n hx hb dX3_roundsAgain_10 rfl (lv_at hl 0 rfl) ?_
      refine x_callv (w1 := fun (u : (Nat → Nat → Int32) × (Nat → Nat → Int32)) => ([(h0, .inr (2, [.ref o1, .ref o2, .int 1])), (o1, .inl (y 5, 11, .inr (.inr (.inr (.inr (xG r1)))))), (o2, .inl (y 5, 11, .inr (.inr (.inr (.inr (xG r2))))))] ++ (xR y r1 u.1 ++ xR y r2 u.2))) (wr := []) (ws' := fun (u : (Nat → Nat → Int32) × (Nat → Nat → Int32)) => ([(h0, .inr (2, [.ref o1, .ref o2, .int 1])), (o1, .inl (y 5, 11, .inr (.inr (.inr (.inr (xG r1)))))), (o2, .inl (y 5, 11, .inr (.inr (.inr (.inr (xG r2))))))] ++ (xR y r1 u.1 ++ xR y r2 u.2))) (va_runV (As := []) (rest := []) ⟨hx, hb, hml, hown, hts⟩ (c_fill0 l D y H.size h0 o1 o2 r1 r2 F1 F2 hz) (cwV 0 hts g_c_roundsAgain0_1 rfl rfl rfl (by decide +kernel) ⟨Nat.le_of_ble_eq_true rfl, Nat.le_of_ble_eq_true rfl⟩) (x_preV (q := (RX3, TX3, 3)) hK (x_subP hP [0, 1, 2, 3, 4, 5, 6, 7, 8, 9, 10, 11, 12, 13, 14, 15, 16, 17, 18, 19, 20, 21, 22, 23, 24] rfl) (x_subD hD [0, 1, 2, 3, 4, 5, 6, 7, 8, 9, 10, 11, 12, 13, 14, 15, 16, 17, 18, 19, 20, 21, 22, 23, 24] rfl (by decide)) (ci := 2) (q0 := 0) rfl rfl) rfl rfl hl.1 rfl (lv_room (Nat.le_of_ble_eq_true rfl)) dX3_roundsAgain_11 ⟨Nat.le_of_ble_eq_true rfl, Nat.le_of_ble_eq_true rfl⟩) hP hD hS hA [0, 1, 2, 3, 4, 5, 6, 7, 8, 9, 10, 11, 12, 13, 14, 15, 16, 17, 18, 19, 20, 21, 22, 23, 24] [] rfl rfl (by decide) (by decide) [0, 1, 2, 3, 4, 5, 6, 7, 8, 9, 10, 11, 12, 13, 14, 15, 16, 17, 18, 19, 20, 21, 22, 23, 24] (fun _ => rfl) (by decide) (fun u H locs hw hP hD hS => ?_)
      obtain ⟨G_4, G_5⟩ := u
      try dsimp only at hw
      obtain ⟨hw1, hw2⟩ := hw
      have hP : va_P D vwCl ([(h0, .inr (2, [.ref o1, .ref o2, .int 1])), (o1, .inl (y 5, 11, .inr (.inr (.inr (.inr (xG r1)))))), (o2, .inl (y 5, 11, .inr (.inr (.inr (.inr (xG r2))))))] ++ (xR y r1 G_4 ++ xR y r2 G_5)) H := hP
      have hD : va_D A ([(h0, .inr (2, [.ref o1, .ref o2, .int 1])), (o1, .inl (y 5, 11, .inr (.inr (.inr (.inr (xG r1)))))), (o2, .inl (y 5, 11, .inr (.inr (.inr (.inr (xG r2))))))] ++ (xR y r1 G_4 ++ xR y r2 G_5)) := hD
      refine lv_aload_n hx hb dX3_roundsAgain_14 rfl (lv_at hl 0 rfl) ?_
      refine va_get (D := D) (ci := 2) (v := .ref o1) (C := RX3) (T := TX3) (N := 3) hx hb hts inX3 hown hK hP 0 rfl rfl 0 (by decide) fl13 (fun _ h9 => h9) rfl dX3_roundsAgain_15 ?_
      refine lv_iload_n hx hb dX3_roundsAgain_18 rfl (lv_at hl 2 rfl) ?_
      refine x_ald2 (k := K) hx hb hK hP 1 5 rfl rfl (by omega) dX3_roundsAgain_19 ?_
      refine lv_iload_n hx hb dX3_roundsAgain_20 rfl (lv_at hl 1 rfl) ?_
      refine va_iald hx hb hK hP (3 + K) 2 (x_at1 y r1 r2 G_4 G_5 (k := K) (by omega)) rfl (vp_in_nI (n := N) (by omega) (by decide)) dX3_roundsAgain_21 ?_
      refine lv_topi (fun i_6 ei_6 => ?_)
      rw [nI_clamp (n := N) (by omega)] at ei_6
      rw [hw1 K N hK1 hK2 hN1 hN2] at ei_6
      exact x_iret (v := i_6) (u := (1, G_4, G_5)) hx hb hr (by rw [ga_nI hN1 hN2 hK1 hK2]; exact ei_6) hP hD hK hS [0, 1, 2, 3, 4, 5, 6, 7, 8, 9, 10, 11, 12, 13, 14, 15, 16, 17, 18, 19, 20, 21, 22, 23, 24] rfl (by decide) dX3_roundsAgain_22 hlocks hQ
    · exact absurd c_3 (by decide)
  · refine lv_if_ne (tgt := 10) hx hb dX3_roundsAgain_5 (by decide) (fun c_7 => ?_) (fun c_7 => ?_)
    · exact absurd (by decide) c_7
    · refine lv_iconst (v := (-1)) hx hb dX3_roundsAgain_8 (by decide) ?_
      exact x_iret (v := (-1)) (u := (0, F1, F2)) hx hb hr (by unfold ga; rw [if_neg g_2]) hP hD hK hS [0, 1, 2, 3, 4, 5, 6, 7, 8, 9, 10, 11, 12, 13, 14, 15, 16, 17, 18, 19, 20, 21, 22, 23, 24] rfl (by decide) dX3_roundsAgain_9 hlocks hQ

def v_c_firstKept0 : List Cond := .code yX3_firstKept cX3_firstKept 3 (some .int) :: ([.fieldLink RX3 16 "SlopeRunner$Keepers" "firstAt" "[[I"] ++ ((wsS RX3 19 yX3_canBe v_c_canBe) ++ ((wsV RX3 23 RX3 yX3_fill v_c_fill0) ++ wsX30)))
theorem g_c_firstKept0_0 : GoodIn v_c_firstKept0 (wsS RX3 19 yX3_canBe v_c_canBe) := goodIn_sub (fun w h => List.mem_cons_of_mem _ (List.mem_append_right _ (List.mem_append_left _ h))) (by decide +kernel)
theorem g_c_firstKept0_1 : GoodIn v_c_firstKept0 (wsV RX3 23 RX3 yX3_fill v_c_fill0) := goodIn_sub (fun w h => List.mem_cons_of_mem _ (List.mem_append_right _ (List.mem_append_right _ (List.mem_append_left _ h)))) (by decide +kernel)
set_option maxHeartbeats 4000000 in
set_option maxRecDepth 100000 in
theorem c_firstKept0 (l : Launch) (D : va_G) (y : Nat → ClassId) (sz : Nat) (h0 o1 o2 : Nat) (r1 r2 : Nat → Nat) (F1 F2 : Nat → Nat → Int32) (n k : Int32) (hz : ∀ a : Nat, 2 ≤ a → a ≤ 10 → F1 a 1 = 0) : Met l yX3_firstKept v_c_firstKept0 ({ frames := 2, cells := 0, slots := 0, locals := 46 } : Room) (va_Pc [.ref h0, .int n, .int k] (xPre D (xT y) ([(h0, .inr (2, [.ref o1, .ref o2, .int 0])), (o1, .inl (y 5, 11, .inr (.inr (.inr (.inr (xG r1)))))), (o2, .inl (y 5, 11, .inr (.inr (.inr (.inr (xG r2))))))] ++ (xR y r1 F1 ++ xR y r2 F2)) sz)) (va_Qi (fun (r : Int32) (_ : Int32 × (Nat → Nat → Int32) × (Nat → Nat → Int32)) => r = gb n k) (fun (u : Int32 × (Nat → Nat → Int32) × (Nat → Nat → Int32)) => xB D (xT y) (va_A ([(h0, .inr (2, [.ref o1, .ref o2, .int 0])), (o1, .inl (y 5, 11, .inr (.inr (.inr (.inr (xG r1)))))), (o2, .inl (y 5, 11, .inr (.inr (.inr (.inr (xG r2))))))] ++ (xR y r1 F1 ++ xR y r2 F2)) sz) ([(h0, .inr (2, [.ref o1, .ref o2, .int u.1])), (o1, .inl (y 5, 11, .inr (.inr (.inr (.inr (xG r1)))))), (o2, .inl (y 5, 11, .inr (.inr (.inr (.inr (xG r2))))))] ++ (xR y r1 u.2.1 ++ xR y r2 u.2.2))) (va_A ([(h0, .inr (2, [.ref o1, .ref o2, .int 0])), (o1, .inl (y 5, 11, .inr (.inr (.inr (.inr (xG r1)))))), (o2, .inl (y 5, 11, .inr (.inr (.inr (.inr (xG r2))))))] ++ (xR y r1 F1 ++ xR y r2 F2)) sz)) 0 0 (va_A ([(h0, .inr (2, [.ref o1, .ref o2, .int 0])), (o1, .inl (y 5, 11, .inr (.inr (.inr (.inr (xG r1)))))), (o2, .inl (y 5, 11, .inr (.inr (.inr (.inr (xG r2))))))] ++ (xR y r1 F1 ++ xR y r2 F2)) sz) := by
  refine x_meti (cc := cX3_firstKept) (maxL := 3) (by decide) rfl (Nat.le_of_ble_eq_true rfl) ?_
  intro p e s m below meth c A H locs Q hx hb hml hown hts hr hlocks hmn hA hP hK hD hS ls hl hQ
  have hl : lv_has ls 3 [(0, .ref h0), (1, .int n), (2, .int k)] := hl
  have fl16 := hts (.fieldLink RX3 16 "SlopeRunner$Keepers" "firstAt" "[[I") (by decide +kernel)
  have inX3 : ∀ w ∈ wsX30, w ∈ v_c_firstKept0 := (fun w h => List.mem_cons_of_mem _ (List.mem_append_right _ (List.mem_append_right _ (List.mem_append_right _ h))))
  refine lv_iload_n hx hb dX3_firstKept_0 rfl (lv_at hl 1 rfl) ?_
  refine lv_iload_n hx hb dX3_firstKept_1 rfl (lv_at hl 2 rfl) ?_
  refine x_calli (w1 := fun (u : Unit) => []) (wr := ([(h0, .inr (2, [.ref o1, .ref o2, .int 0])), (o1, .inl (y 5, 11, .inr (.inr (.inr (.inr (xG r1)))))), (o2, .inl (y 5, 11, .inr (.inr (.inr (.inr (xG r2))))))] ++ (xR y r1 F1 ++ xR y r2 F2))) (ws' := fun (u : Unit) => ([(h0, .inr (2, [.ref o1, .ref o2, .int 0])), (o1, .inl (y 5, 11, .inr (.inr (.inr (.inr (xG r1)))))), (o2, .inl (y 5, 11, .inr (.inr (.inr (.inr (xG r2))))))] ++ (xR y r1 F1 ++ xR y r2 F2))) (va_runS (As := [.int n, .int k]) (rest := []) ⟨hx, hb, hml, hown, hts⟩ (c_canBe l D y H.size n k) (cwS 2 hts g_c_firstKept0_0 rfl rfl rfl (by decide +kernel) ⟨Nat.le_of_ble_eq_true rfl, Nat.le_of_ble_eq_true rfl⟩) (x_preS hK (x_subP hP [] rfl) (x_subD hD [] rfl (by decide))) rfl rfl hl.1 rfl (lv_room (Nat.le_of_ble_eq_true rfl)) dX3_firstKept_2 ⟨Nat.le_of_ble_eq_true rfl, Nat.le_of_ble_eq_true rfl⟩) hP hD hS hA [] [0, 1, 2, 3, 4, 5, 6, 7, 8, 9, 10, 11, 12, 13, 14, 15, 16, 17, 18, 19, 20, 21, 22, 23, 24] rfl rfl (by decide) (by decide) [0, 1, 2, 3, 4, 5, 6, 7, 8, 9, 10, 11, 12, 13, 14, 15, 16, 17, 18, 19, 20, 21, 22, 23, 24] (fun _ => rfl) (by decide) (fun r_1 u H locs hw hP hD hS => ?_)
  try dsimp only at hw
  have hP : va_P D vwCl ([(h0, .inr (2, [.ref o1, .ref o2, .int 0])), (o1, .inl (y 5, 11, .inr (.inr (.inr (.inr (xG r1)))))), (o2, .inl (y 5, 11, .inr (.inr (.inr (.inr (xG r2))))))] ++ (xR y r1 F1 ++ xR y r2 F2)) H := hP
  have hD : va_D A ([(h0, .inr (2, [.ref o1, .ref o2, .int 0])), (o1, .inl (y 5, 11, .inr (.inr (.inr (.inr (xG r1)))))), (o2, .inl (y 5, 11, .inr (.inr (.inr (.inr (xG r2))))))] ++ (xR y r1 F1 ++ xR y r2 F2)) := hD
  rcases hw with ⟨rfl, g_2⟩ | ⟨rfl, g_2⟩
  · refine lv_if_eq (tgt := 18) hx hb dX3_firstKept_5 (by decide) (fun c_3 => ?_) (fun c_3 => ?_)
    · exact absurd c_3 (by decide)
    · refine lv_iload_n hx hb dX3_firstKept_8 rfl (lv_at hl 1 rfl) ?_
      refine lv_iconst (v := 1) hx hb dX3_firstKept_9 (by decide) ?_
      refine lv_icmp_eq (tgt := 18) hx hb dX3_firstKept_10 (by decide) (fun c_4 => ?_) (fun c_4 => ?_)
      · refine lv_iconst (v := (-1)) hx hb dX3_firstKept_18 (by decide) ?_
        exact x_iret (v := (-1)) (u := (0, F1, F2)) hx hb hr (by unfold gb; rw [if_neg (by (try rw [x_eq] at *); (try simp only [Int32.reduceToInt] at *); omega)]) hP hD hK hS [0, 1, 2, 3, 4, 5, 6, 7, 8, 9, 10, 11, 12, 13, 14, 15, 16, 17, 18, 19, 20, 21, 22, 23, 24] rfl (by decide) dX3_firstKept_19 hlocks hQ
      · refine lv_iload_n hx hb dX3_firstKept_13 rfl (lv_at hl 2 rfl) ?_
        refine lv_iconst (v := 1) hx hb dX3_firstKept_14 (by decide) ?_
        refine lv_icmp_ne (tgt := 20) hx hb dX3_firstKept_15 (by decide) (fun c_5 => ?_) (fun c_5 => ?_)
        · have hn2 : 2 ≤ n.toInt := by rw [x_eq] at c_4; simp only [Int32.reduceToInt] at c_4; omega
          have hk2 : 2 ≤ k.toInt := by rw [x_eq] at c_5; simp only [Int32.reduceToInt] at c_5; omega
          obtain ⟨N, hN1, hN2, rfl⟩ := x_nat (x := n) (a := 2) (b := 100) hn2 g_2.1.2 (by decide)
          obtain ⟨K, hK1, hK2, rfl⟩ := x_nat (x := k) (a := 2) (b := 10) hk2 g_2.2.2 (by decide)
          refine lv_aload_n hx hb dX3_firstKept_20 rfl (lv_at hl 0 rfl) ?_
          refine x_callv (w1 := fun (u : (Nat → Nat → Int32) × (Nat → Nat → Int32)) => ([(h0, .inr (2, [.ref o1, .ref o2, .int 1])), (o1, .inl (y 5, 11, .inr (.inr (.inr (.inr (xG r1)))))), (o2, .inl (y 5, 11, .inr (.inr (.inr (.inr (xG r2))))))] ++ (xR y r1 u.1 ++ xR y r2 u.2))) (wr := []) (ws' := fun (u : (Nat → Nat → Int32) × (Nat → Nat → Int32)) => ([(h0, .inr (2, [.ref o1, .ref o2, .int 1])), (o1, .inl (y 5, 11, .inr (.inr (.inr (.inr (xG r1)))))), (o2, .inl (y 5, 11, .inr (.inr (.inr (.inr (xG r2))))))] ++ (xR y r1 u.1 ++ xR y r2 u.2))) (va_runV (As := []) (rest := []) ⟨hx, hb, hml, hown, hts⟩ (c_fill0 l D y H.size h0 o1 o2 r1 r2 F1 F2 hz) (cwV 0 hts g_c_firstKept0_1 rfl rfl rfl (by decide +kernel) ⟨Nat.le_of_ble_eq_true rfl, Nat.le_of_ble_eq_true rfl⟩) (x_preV (q := (RX3, TX3, 3)) hK (x_subP hP [0, 1, 2, 3, 4, 5, 6, 7, 8, 9, 10, 11, 12, 13, 14, 15, 16, 17, 18, 19, 20, 21, 22, 23, 24] rfl) (x_subD hD [0, 1, 2, 3, 4, 5, 6, 7, 8, 9, 10, 11, 12, 13, 14, 15, 16, 17, 18, 19, 20, 21, 22, 23, 24] rfl (by decide)) (ci := 2) (q0 := 0) rfl rfl) rfl rfl hl.1 rfl (lv_room (Nat.le_of_ble_eq_true rfl)) dX3_firstKept_21 ⟨Nat.le_of_ble_eq_true rfl, Nat.le_of_ble_eq_true rfl⟩) hP hD hS hA [0, 1, 2, 3, 4, 5, 6, 7, 8, 9, 10, 11, 12, 13, 14, 15, 16, 17, 18, 19, 20, 21, 22, 23, 24] [] rfl rfl (by decide) (by decide) [0, 1, 2, 3, 4, 5, 6, 7, 8, 9, 10, 11, 12, 13, 14, 15, 16, 17, 18, 19, 20, 21, 22, 23, 24] (fun _ => rfl) (by decide) (fun u H locs hw hP hD hS => ?_)
          obtain ⟨G_6, G_7⟩ := u
          try dsimp only at hw
          obtain ⟨hw1, hw2⟩ := hw
          have hP : va_P D vwCl ([(h0, .inr (2, [.ref o1, .ref o2, .int 1])), (o1, .inl (y 5, 11, .inr (.inr (.inr (.inr (xG r1)))))), (o2, .inl (y 5, 11, .inr (.inr (.inr (.inr (xG r2))))))] ++ (xR y r1 G_6 ++ xR y r2 G_7)) H := hP
          have hD : va_D A ([(h0, .inr (2, [.ref o1, .ref o2, .int 1])), (o1, .inl (y 5, 11, .inr (.inr (.inr (.inr (xG r1)))))), (o2, .inl (y 5, 11, .inr (.inr (.inr (.inr (xG r2))))))] ++ (xR y r1 G_6 ++ xR y r2 G_7)) := hD
          refine lv_aload_n hx hb dX3_firstKept_24 rfl (lv_at hl 0 rfl) ?_
          refine va_get (D := D) (ci := 2) (v := .ref o2) (C := RX3) (T := TX3) (N := 3) hx hb hts inX3 hown hK hP 0 rfl rfl 1 (by decide) fl16 (fun _ h9 => h9) rfl dX3_firstKept_25 ?_
          refine lv_iload_n hx hb dX3_firstKept_28 rfl (lv_at hl 2 rfl) ?_
          refine x_ald2 (k := K) hx hb hK hP 2 5 rfl rfl (by omega) dX3_firstKept_29 ?_
          refine lv_iload_n hx hb dX3_firstKept_30 rfl (lv_at hl 1 rfl) ?_
          refine va_iald hx hb hK hP (14 + K) 2 (x_at2 y r1 r2 G_6 G_7 (k := K) (by omega)) rfl (vp_in_nI (n := N) (by omega) (by decide)) dX3_firstKept_31 ?_
          refine lv_topi (fun i_8 ei_8 => ?_)
          rw [nI_clamp (n := N) (by omega)] at ei_8
          rw [hw2 K N hK1 hK2 hN1 hN2] at ei_8
          exact x_iret (v := i_8) (u := (1, G_6, G_7)) hx hb hr (by rw [gb_nI hN1 hN2 hK1 hK2]; exact ei_8) hP hD hK hS [0, 1, 2, 3, 4, 5, 6, 7, 8, 9, 10, 11, 12, 13, 14, 15, 16, 17, 18, 19, 20, 21, 22, 23, 24] rfl (by decide) dX3_firstKept_32 hlocks hQ
        · refine lv_iconst (v := (-1)) hx hb dX3_firstKept_18 (by decide) ?_
          exact x_iret (v := (-1)) (u := (0, F1, F2)) hx hb hr (by unfold gb; rw [if_neg (by (try rw [x_eq] at *); (try simp only [Int32.reduceToInt] at *); omega)]) hP hD hK hS [0, 1, 2, 3, 4, 5, 6, 7, 8, 9, 10, 11, 12, 13, 14, 15, 16, 17, 18, 19, 20, 21, 22, 23, 24] rfl (by decide) dX3_firstKept_19 hlocks hQ
  · refine lv_if_eq (tgt := 18) hx hb dX3_firstKept_5 (by decide) (fun c_9 => ?_) (fun c_9 => ?_)
    · refine lv_iconst (v := (-1)) hx hb dX3_firstKept_18 (by decide) ?_
      exact x_iret (v := (-1)) (u := (0, F1, F2)) hx hb hr (by unfold gb; rw [if_neg (by (try rw [x_eq] at *); (try simp only [Int32.reduceToInt] at *); omega)]) hP hD hK hS [0, 1, 2, 3, 4, 5, 6, 7, 8, 9, 10, 11, 12, 13, 14, 15, 16, 17, 18, 19, 20, 21, 22, 23, 24] rfl (by decide) dX3_firstKept_19 hlocks hQ
    · exact absurd (by decide) c_9

def v_c_again0 : List Cond := .code yX11_again cX11_again 3 (some .int) :: ([.fieldLink RX11 54 "SlopeRunner" "keepers" "LSlopeRunner$Keepers;"] ++ ((wsV RX11 244 RX3 yX3_roundsAgain v_c_roundsAgain0) ++ wsX110))
theorem g_c_again0_0 : GoodIn v_c_again0 (wsV RX11 244 RX3 yX3_roundsAgain v_c_roundsAgain0) := goodIn_sub (fun w h => List.mem_cons_of_mem _ (List.mem_append_right _ (List.mem_append_left _ h))) (by decide +kernel)
set_option maxHeartbeats 4000000 in
set_option maxRecDepth 100000 in
theorem c_again0 (l : Launch) (D : va_G) (y : Nat → ClassId) (sz : Nat) (x0 t0 p0 n0 m0 s0 r0 l0 w0 g0 e0 : Nat) (h0 o1 o2 : Nat) (r1 r2 : Nat → Nat) (F1 F2 : Nat → Nat → Int32) (n k : Int32) (hz : ∀ a : Nat, 2 ≤ a → a ≤ 10 → F1 a 1 = 0) : Met l yX11_again v_c_again0 ({ frames := 3, cells := 0, slots := 0, locals := 68 } : Room) (va_Pc [.ref x0, .int n, .int k] (xPre D (xT y) ([(x0, .inr (10, [.ref t0, .ref p0, .ref n0, .ref m0, .ref s0, .ref r0, .ref h0, .ref l0, .ref w0, .ref g0, .ref e0])), (h0, .inr (2, [.ref o1, .ref o2, .int 0])), (o1, .inl (y 5, 11, .inr (.inr (.inr (.inr (xG r1)))))), (o2, .inl (y 5, 11, .inr (.inr (.inr (.inr (xG r2))))))] ++ (xR y r1 F1 ++ xR y r2 F2)) sz)) (va_Qi (fun (r : Int32) (_ : Int32 × (Nat → Nat → Int32) × (Nat → Nat → Int32)) => r = ga n k) (fun (u : Int32 × (Nat → Nat → Int32) × (Nat → Nat → Int32)) => xB D (xT y) (va_A ([(x0, .inr (10, [.ref t0, .ref p0, .ref n0, .ref m0, .ref s0, .ref r0, .ref h0, .ref l0, .ref w0, .ref g0, .ref e0])), (h0, .inr (2, [.ref o1, .ref o2, .int 0])), (o1, .inl (y 5, 11, .inr (.inr (.inr (.inr (xG r1)))))), (o2, .inl (y 5, 11, .inr (.inr (.inr (.inr (xG r2))))))] ++ (xR y r1 F1 ++ xR y r2 F2)) sz) ([(x0, .inr (10, [.ref t0, .ref p0, .ref n0, .ref m0, .ref s0, .ref r0, .ref h0, .ref l0, .ref w0, .ref g0, .ref e0])), (h0, .inr (2, [.ref o1, .ref o2, .int u.1])), (o1, .inl (y 5, 11, .inr (.inr (.inr (.inr (xG r1)))))), (o2, .inl (y 5, 11, .inr (.inr (.inr (.inr (xG r2))))))] ++ (xR y r1 u.2.1 ++ xR y r2 u.2.2))) (va_A ([(x0, .inr (10, [.ref t0, .ref p0, .ref n0, .ref m0, .ref s0, .ref r0, .ref h0, .ref l0, .ref w0, .ref g0, .ref e0])), (h0, .inr (2, [.ref o1, .ref o2, .int 0])), (o1, .inl (y 5, 11, .inr (.inr (.inr (.inr (xG r1)))))), (o2, .inl (y 5, 11, .inr (.inr (.inr (.inr (xG r2))))))] ++ (xR y r1 F1 ++ xR y r2 F2)) sz)) 0 0 (va_A ([(x0, .inr (10, [.ref t0, .ref p0, .ref n0, .ref m0, .ref s0, .ref r0, .ref h0, .ref l0, .ref w0, .ref g0, .ref e0])), (h0, .inr (2, [.ref o1, .ref o2, .int 0])), (o1, .inl (y 5, 11, .inr (.inr (.inr (.inr (xG r1)))))), (o2, .inl (y 5, 11, .inr (.inr (.inr (.inr (xG r2))))))] ++ (xR y r1 F1 ++ xR y r2 F2)) sz) := by
  refine x_meti (cc := cX11_again) (maxL := 3) (by decide) rfl (Nat.le_of_ble_eq_true rfl) ?_
  intro p e s m below meth c A H locs Q hx hb hml hown hts hr hlocks hmn hA hP hK hD hS ls hl hQ
  have hl : lv_has ls 3 [(0, .ref x0), (1, .int n), (2, .int k)] := hl
  have fl54 := hts (.fieldLink RX11 54 "SlopeRunner" "keepers" "LSlopeRunner$Keepers;") (by decide +kernel)
  have inX11 : ∀ w ∈ wsX110, w ∈ v_c_again0 := (fun w h => List.mem_cons_of_mem _ (List.mem_append_right _ (List.mem_append_right _ h)))
  refine lv_aload_n hx hb dX11_again_0 rfl (lv_at hl 0 rfl) ?_
  refine va_get (D := D) (ci := 10) (v := .ref h0) (C := RX11) (T := TX11) (N := 11) hx hb hts inX11 hown hK hP 0 rfl rfl 6 (by decide) fl54 (fun _ h9 => h9) rfl dX11_again_1 ?_
  refine lv_iload_n hx hb dX11_again_4 rfl (lv_at hl 1 rfl) ?_
  refine lv_iload_n hx hb dX11_again_5 rfl (lv_at hl 2 rfl) ?_
  refine x_calli (w1 := fun (u : Int32 × (Nat → Nat → Int32) × (Nat → Nat → Int32)) => ([(h0, .inr (2, [.ref o1, .ref o2, .int u.1])), (o1, .inl (y 5, 11, .inr (.inr (.inr (.inr (xG r1)))))), (o2, .inl (y 5, 11, .inr (.inr (.inr (.inr (xG r2))))))] ++ (xR y r1 u.2.1 ++ xR y r2 u.2.2))) (wr := [(x0, .inr (10, [.ref t0, .ref p0, .ref n0, .ref m0, .ref s0, .ref r0, .ref h0, .ref l0, .ref w0, .ref g0, .ref e0]))]) (ws' := fun (u : Int32 × (Nat → Nat → Int32) × (Nat → Nat → Int32)) => ([(x0, .inr (10, [.ref t0, .ref p0, .ref n0, .ref m0, .ref s0, .ref r0, .ref h0, .ref l0, .ref w0, .ref g0, .ref e0])), (h0, .inr (2, [.ref o1, .ref o2, .int u.1])), (o1, .inl (y 5, 11, .inr (.inr (.inr (.inr (xG r1)))))), (o2, .inl (y 5, 11, .inr (.inr (.inr (.inr (xG r2))))))] ++ (xR y r1 u.2.1 ++ xR y r2 u.2.2))) (va_runV (As := [.int n, .int k]) (rest := []) ⟨hx, hb, hml, hown, hts⟩ (c_roundsAgain0 l D y H.size h0 o1 o2 r1 r2 F1 F2 n k hz) (cwV 2 hts g_c_again0_0 rfl rfl rfl (by decide +kernel) ⟨Nat.le_of_ble_eq_true rfl, Nat.le_of_ble_eq_true rfl⟩) (x_preV (q := (RX3, TX3, 3)) hK (x_subP hP [1, 2, 3, 4, 5, 6, 7, 8, 9, 10, 11, 12, 13, 14, 15, 16, 17, 18, 19, 20, 21, 22, 23, 24, 25] rfl) (x_subD hD [1, 2, 3, 4, 5, 6, 7, 8, 9, 10, 11, 12, 13, 14, 15, 16, 17, 18, 19, 20, 21, 22, 23, 24, 25] rfl (by decide)) (ci := 2) (q0 := 0) rfl rfl) rfl rfl hl.1 rfl (lv_room (Nat.le_of_ble_eq_true rfl)) dX11_again_6 ⟨Nat.le_of_ble_eq_true rfl, Nat.le_of_ble_eq_true rfl⟩) hP hD hS hA [1, 2, 3, 4, 5, 6, 7, 8, 9, 10, 11, 12, 13, 14, 15, 16, 17, 18, 19, 20, 21, 22, 23, 24, 25] [0] rfl rfl (by decide) (by decide) [0, 1, 2, 3, 4, 5, 6, 7, 8, 9, 10, 11, 12, 13, 14, 15, 16, 17, 18, 19, 20, 21, 22, 23, 24, 25] (fun _ => rfl) (by decide) (fun r_1 u H locs hw hP hD hS => ?_)
  obtain ⟨i_2, G_3, G_4⟩ := u
  try dsimp only at hw
  have hP : va_P D vwCl ([(x0, .inr (10, [.ref t0, .ref p0, .ref n0, .ref m0, .ref s0, .ref r0, .ref h0, .ref l0, .ref w0, .ref g0, .ref e0])), (h0, .inr (2, [.ref o1, .ref o2, .int i_2])), (o1, .inl (y 5, 11, .inr (.inr (.inr (.inr (xG r1)))))), (o2, .inl (y 5, 11, .inr (.inr (.inr (.inr (xG r2))))))] ++ (xR y r1 G_3 ++ xR y r2 G_4)) H := hP
  have hD : va_D A ([(x0, .inr (10, [.ref t0, .ref p0, .ref n0, .ref m0, .ref s0, .ref r0, .ref h0, .ref l0, .ref w0, .ref g0, .ref e0])), (h0, .inr (2, [.ref o1, .ref o2, .int i_2])), (o1, .inl (y 5, 11, .inr (.inr (.inr (.inr (xG r1)))))), (o2, .inl (y 5, 11, .inr (.inr (.inr (.inr (xG r2))))))] ++ (xR y r1 G_3 ++ xR y r2 G_4)) := hD
  exact x_iret (v := r_1) (u := (i_2, G_3, G_4)) hx hb hr hw hP hD hK hS [0, 1, 2, 3, 4, 5, 6, 7, 8, 9, 10, 11, 12, 13, 14, 15, 16, 17, 18, 19, 20, 21, 22, 23, 24, 25] rfl (by decide) dX11_again_9 hlocks hQ

def v_c_first0 : List Cond := .code yX11_first cX11_first 3 (some .int) :: ([.fieldLink RX11 54 "SlopeRunner" "keepers" "LSlopeRunner$Keepers;"] ++ ((wsV RX11 248 RX3 yX3_firstKept v_c_firstKept0) ++ wsX110))
theorem g_c_first0_0 : GoodIn v_c_first0 (wsV RX11 248 RX3 yX3_firstKept v_c_firstKept0) := goodIn_sub (fun w h => List.mem_cons_of_mem _ (List.mem_append_right _ (List.mem_append_left _ h))) (by decide +kernel)
set_option maxHeartbeats 4000000 in
set_option maxRecDepth 100000 in
theorem c_first0 (l : Launch) (D : va_G) (y : Nat → ClassId) (sz : Nat) (x0 t0 p0 n0 m0 s0 r0 l0 w0 g0 e0 : Nat) (h0 o1 o2 : Nat) (r1 r2 : Nat → Nat) (F1 F2 : Nat → Nat → Int32) (n k : Int32) (hz : ∀ a : Nat, 2 ≤ a → a ≤ 10 → F1 a 1 = 0) : Met l yX11_first v_c_first0 ({ frames := 3, cells := 0, slots := 0, locals := 68 } : Room) (va_Pc [.ref x0, .int n, .int k] (xPre D (xT y) ([(x0, .inr (10, [.ref t0, .ref p0, .ref n0, .ref m0, .ref s0, .ref r0, .ref h0, .ref l0, .ref w0, .ref g0, .ref e0])), (h0, .inr (2, [.ref o1, .ref o2, .int 0])), (o1, .inl (y 5, 11, .inr (.inr (.inr (.inr (xG r1)))))), (o2, .inl (y 5, 11, .inr (.inr (.inr (.inr (xG r2))))))] ++ (xR y r1 F1 ++ xR y r2 F2)) sz)) (va_Qi (fun (r : Int32) (_ : Int32 × (Nat → Nat → Int32) × (Nat → Nat → Int32)) => r = gb n k) (fun (u : Int32 × (Nat → Nat → Int32) × (Nat → Nat → Int32)) => xB D (xT y) (va_A ([(x0, .inr (10, [.ref t0, .ref p0, .ref n0, .ref m0, .ref s0, .ref r0, .ref h0, .ref l0, .ref w0, .ref g0, .ref e0])), (h0, .inr (2, [.ref o1, .ref o2, .int 0])), (o1, .inl (y 5, 11, .inr (.inr (.inr (.inr (xG r1)))))), (o2, .inl (y 5, 11, .inr (.inr (.inr (.inr (xG r2))))))] ++ (xR y r1 F1 ++ xR y r2 F2)) sz) ([(x0, .inr (10, [.ref t0, .ref p0, .ref n0, .ref m0, .ref s0, .ref r0, .ref h0, .ref l0, .ref w0, .ref g0, .ref e0])), (h0, .inr (2, [.ref o1, .ref o2, .int u.1])), (o1, .inl (y 5, 11, .inr (.inr (.inr (.inr (xG r1)))))), (o2, .inl (y 5, 11, .inr (.inr (.inr (.inr (xG r2))))))] ++ (xR y r1 u.2.1 ++ xR y r2 u.2.2))) (va_A ([(x0, .inr (10, [.ref t0, .ref p0, .ref n0, .ref m0, .ref s0, .ref r0, .ref h0, .ref l0, .ref w0, .ref g0, .ref e0])), (h0, .inr (2, [.ref o1, .ref o2, .int 0])), (o1, .inl (y 5, 11, .inr (.inr (.inr (.inr (xG r1)))))), (o2, .inl (y 5, 11, .inr (.inr (.inr (.inr (xG r2))))))] ++ (xR y r1 F1 ++ xR y r2 F2)) sz)) 0 0 (va_A ([(x0, .inr (10, [.ref t0, .ref p0, .ref n0, .ref m0, .ref s0, .ref r0, .ref h0, .ref l0, .ref w0, .ref g0, .ref e0])), (h0, .inr (2, [.ref o1, .ref o2, .int 0])), (o1, .inl (y 5, 11, .inr (.inr (.inr (.inr (xG r1)))))), (o2, .inl (y 5, 11, .inr (.inr (.inr (.inr (xG r2))))))] ++ (xR y r1 F1 ++ xR y r2 F2)) sz) := by
  refine x_meti (cc := cX11_first) (maxL := 3) (by decide) rfl (Nat.le_of_ble_eq_true rfl) ?_
  intro p e s m below meth c A H locs Q hx hb hml hown hts hr hlocks hmn hA hP hK hD hS ls hl hQ
  have hl : lv_has ls 3 [(0, .ref x0), (1, .int n), (2, .int k)] := hl
  have fl54 := hts (.fieldLink RX11 54 "SlopeRunner" "keepers" "LSlopeRunner$Keepers;") (by decide +kernel)
  have inX11 : ∀ w ∈ wsX110, w ∈ v_c_first0 := (fun w h => List.mem_cons_of_mem _ (List.mem_append_right _ (List.mem_append_right _ h)))
  refine lv_aload_n hx hb dX11_first_0 rfl (lv_at hl 0 rfl) ?_
  refine va_get (D := D) (ci := 10) (v := .ref h0) (C := RX11) (T := TX11) (N := 11) hx hb hts inX11 hown hK hP 0 rfl rfl 6 (by decide) fl54 (fun _ h9 => h9) rfl dX11_first_1 ?_
  refine lv_iload_n hx hb dX11_first_4 rfl (lv_at hl 1 rfl) ?_
  refine lv_iload_n hx hb dX11_first_5 rfl (lv_at hl 2 rfl) ?_
  refine x_calli (w1 := fun (u : Int32 × (Nat → Nat → Int32) × (Nat → Nat → Int32)) => ([(h0, .inr (2, [.ref o1, .ref o2, .int u.1])), (o1, .inl (y 5, 11, .inr (.inr (.inr (.inr (xG r1)))))), (o2, .inl (y 5, 11, .inr (.inr (.inr (.inr (xG r2))))))] ++ (xR y r1 u.2.1 ++ xR y r2 u.2.2))) (wr := [(x0, .inr (10, [.ref t0, .ref p0, .ref n0, .ref m0, .ref s0, .ref r0, .ref h0, .ref l0, .ref w0, .ref g0, .ref e0]))]) (ws' := fun (u : Int32 × (Nat → Nat → Int32) × (Nat → Nat → Int32)) => ([(x0, .inr (10, [.ref t0, .ref p0, .ref n0, .ref m0, .ref s0, .ref r0, .ref h0, .ref l0, .ref w0, .ref g0, .ref e0])), (h0, .inr (2, [.ref o1, .ref o2, .int u.1])), (o1, .inl (y 5, 11, .inr (.inr (.inr (.inr (xG r1)))))), (o2, .inl (y 5, 11, .inr (.inr (.inr (.inr (xG r2))))))] ++ (xR y r1 u.2.1 ++ xR y r2 u.2.2))) (va_runV (As := [.int n, .int k]) (rest := []) ⟨hx, hb, hml, hown, hts⟩ (c_firstKept0 l D y H.size h0 o1 o2 r1 r2 F1 F2 n k hz) (cwV 2 hts g_c_first0_0 rfl rfl rfl (by decide +kernel) ⟨Nat.le_of_ble_eq_true rfl, Nat.le_of_ble_eq_true rfl⟩) (x_preV (q := (RX3, TX3, 3)) hK (x_subP hP [1, 2, 3, 4, 5, 6, 7, 8, 9, 10, 11, 12, 13, 14, 15, 16, 17, 18, 19, 20, 21, 22, 23, 24, 25] rfl) (x_subD hD [1, 2, 3, 4, 5, 6, 7, 8, 9, 10, 11, 12, 13, 14, 15, 16, 17, 18, 19, 20, 21, 22, 23, 24, 25] rfl (by decide)) (ci := 2) (q0 := 0) rfl rfl) rfl rfl hl.1 rfl (lv_room (Nat.le_of_ble_eq_true rfl)) dX11_first_6 ⟨Nat.le_of_ble_eq_true rfl, Nat.le_of_ble_eq_true rfl⟩) hP hD hS hA [1, 2, 3, 4, 5, 6, 7, 8, 9, 10, 11, 12, 13, 14, 15, 16, 17, 18, 19, 20, 21, 22, 23, 24, 25] [0] rfl rfl (by decide) (by decide) [0, 1, 2, 3, 4, 5, 6, 7, 8, 9, 10, 11, 12, 13, 14, 15, 16, 17, 18, 19, 20, 21, 22, 23, 24, 25] (fun _ => rfl) (by decide) (fun r_1 u H locs hw hP hD hS => ?_)
  obtain ⟨i_2, G_3, G_4⟩ := u
  try dsimp only at hw
  have hP : va_P D vwCl ([(x0, .inr (10, [.ref t0, .ref p0, .ref n0, .ref m0, .ref s0, .ref r0, .ref h0, .ref l0, .ref w0, .ref g0, .ref e0])), (h0, .inr (2, [.ref o1, .ref o2, .int i_2])), (o1, .inl (y 5, 11, .inr (.inr (.inr (.inr (xG r1)))))), (o2, .inl (y 5, 11, .inr (.inr (.inr (.inr (xG r2))))))] ++ (xR y r1 G_3 ++ xR y r2 G_4)) H := hP
  have hD : va_D A ([(x0, .inr (10, [.ref t0, .ref p0, .ref n0, .ref m0, .ref s0, .ref r0, .ref h0, .ref l0, .ref w0, .ref g0, .ref e0])), (h0, .inr (2, [.ref o1, .ref o2, .int i_2])), (o1, .inl (y 5, 11, .inr (.inr (.inr (.inr (xG r1)))))), (o2, .inl (y 5, 11, .inr (.inr (.inr (.inr (xG r2))))))] ++ (xR y r1 G_3 ++ xR y r2 G_4)) := hD
  exact x_iret (v := r_1) (u := (i_2, G_3, G_4)) hx hb hr hw hP hD hK hS [0, 1, 2, 3, 4, 5, 6, 7, 8, 9, 10, 11, 12, 13, 14, 15, 16, 17, 18, 19, 20, 21, 22, 23, 24, 25] rfl (by decide) dX11_first_9 hlocks hQ

