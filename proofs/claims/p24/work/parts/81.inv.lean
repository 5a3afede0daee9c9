def gx (b a : Nat) : Int32 := if b = 1 ∨ a = 1 then -1 else nI (gf b a)
set_option maxHeartbeats 4000000 in
set_option maxRecDepth 100000 in
theorem m_worksAgain0 (l : Launch) (D : va_G) (y : Nat → ClassId) (sz : Nat) (h0 : Nat) (ma : Nat → Nat) (mi : Nat → Int32) (mj : Nat → Int64) (f g : Nat → Int32) : Met l yX12_worksAgain v_q_worksAgain ({ frames := 0, cells := 0, slots := 0, locals := 0 } : Room) (va_Pc [.ref h0] (xPre D (xT y) [(h0, .inr (11, mF ma (upd mi 82 0) mj)), ((ma 83), .inl (y 2, 1111, .inl f)), ((ma 84), .inl (y 2, 1111, .inl g))] sz)) (va_Qv (fun (u : (Nat → Int32) × (Nat → Int32)) => (∀ a b : Nat, 1 ≤ a → a ≤ 100 → 1 ≤ b → b ≤ 10 → u.1 (11 * a + b) = nI (gg b a)) ∧ (∀ a b : Nat, 1 ≤ a → a ≤ 100 → 1 ≤ b → b ≤ 10 → u.2 (11 * a + b) = gx b a)) (fun (u : (Nat → Int32) × (Nat → Int32)) => xB D (xT y) (va_A [(h0, .inr (11, mF ma (upd mi 82 0) mj)), ((ma 83), .inl (y 2, 1111, .inl f)), ((ma 84), .inl (y 2, 1111, .inl g))] sz) [(h0, .inr (11, mF ma (upd mi 82 1) mj)), ((ma 83), .inl (y 2, 1111, .inl u.1)), ((ma 84), .inl (y 2, 1111, .inl u.2))]) (va_A [(h0, .inr (11, mF ma (upd mi 82 0) mj)), ((ma 83), .inl (y 2, 1111, .inl f)), ((ma 84), .inl (y 2, 1111, .inl g))] sz)) 0 0 (va_A [(h0, .inr (11, mF ma (upd mi 82 0) mj)), ((ma 83), .inl (y 2, 1111, .inl f)), ((ma 84), .inl (y 2, 1111, .inl g))] sz) := by
  refine x_metv (cc := cX12_worksAgain) (maxL := 6) (by decide) rfl (Nat.le_of_ble_eq_true rfl) ?_
  intro p e s m below meth c A H locs Q hx hb hml hown hts hr hlocks hmn hA hP hK hD hS ls hl hQ
  have hl : lv_has ls 6 [(0, .ref h0)] := hl
  have fl497 := hts (.fieldLink RX12 497 "SlopeRunnerModel" "hasAgain" "Z") (by decide +kernel)
  have inX12 : ∀ w ∈ wsX120, w ∈ v_q_worksAgain := (fun w h => List.mem_cons_of_mem _ (List.mem_append_right _ h))
  have fl182 := hts (.fieldLink RX12 182 "SlopeRunnerModel" "again" "[I") (by decide +kernel)
  have fl185 := hts (.fieldLink RX12 185 "SlopeRunnerModel" "firstKept" "[I") (by decide +kernel)
  refine lv_aload_n hx hb dX12_worksAgain_0 rfl (lv_at hl 0 rfl) ?_
  refine va_get (D := D) (ci := 11) (v := .int 0) (C := RX12) (T := TX12) (N := 85) hx hb hts inX12 hown hK hP 0 rfl rfl 82 (by decide) fl497 (fun _ h9 => h9) rfl dX12_worksAgain_1 ?_
  refine lv_if_eq (tgt := 8) hx hb dX12_worksAgain_4 (by decide) (fun c_1 => ?_) (fun c_1 => ?_)
  · refine lv_aload_n hx hb dX12_worksAgain_8 rfl (lv_at hl 0 rfl) ?_
    refine lv_iconst (v := 1) hx hb dX12_worksAgain_9 (by decide) ?_
    refine va_put (D := D) (ci := 11) (v := .int 1) (ty := .boolean) (C := RX12) (T := TX12) (N := 85) hx hb hts inX12 tyX12 tyX12_ok nmX12 hown hK hP hD hS 0 rfl rfl 82 (by decide) fl497 (fun _ h9 => h9) rfl (by decide +kernel) rfl rfl (Nat.le_of_ble_eq_true rfl) dX12_worksAgain_10 (fun H locs hP hD hS => ?_)
    have hP : va_P D vwCl [(h0, .inr (11, mF ma (upd mi 82 1) mj)), ((ma 83), .inl (y 2, 1111, .inl f)), ((ma 84), .inl (y 2, 1111, .inl g))] H := hP
    have hD : va_D A [(h0, .inr (11, mF ma (upd mi 82 1) mj)), ((ma 83), .inl (y 2, 1111, .inl f)), ((ma 84), .inl (y 2, 1111, .inl g))] := hD
    refine lv_iconst (v := 1) hx hb dX12_worksAgain_13 (by decide) ?_
    refine lv_istore_n (lv' := [(1, .int 1), (0, .ref h0)]) hx hb dX12_worksAgain_14 rfl hl (by decide) rfl (fun ls hl => ?_)
    have loop1 : ∀ (fu : Nat) (n : Nat) (f1 : (Nat → Int32)) (g1 : (Nat → Int32)) (H : Heap) (locs : List Loc) (ls : Array Slot), (1 ≤ n) → (n ≤ 101) → (∀ a b : Nat, 1 ≤ a → a < n → 1 ≤ b → b ≤ 10 → f1 (11 * a + b) = nI (gg b a)) → (∀ a b : Nat, 1 ≤ a → a < n → 1 ≤ b → b ≤ 10 → g1 (11 * a + b) = gx b a) → ((101 : Int) - n < (fu : Int)) → va_P D vwCl [(h0, .inr (11, mF ma (upd mi 82 1) mj)), ((ma 83), .inl (y 2, 1111, .inl f1)), ((ma 84), .inl (y 2, 1111, .inl g1))] H → va_D A [(h0, .inr (11, mF ma (upd mi 82 1) mj)), ((ma 83), .inl (y 2, 1111, .inl f1)), ((ma 84), .inl (y 2, 1111, .inl g1))] → va_S A s.heap H locs → lv_has ls 6 [(1, .int (nI n)), (0, .ref h0)] → W p l e ({ frames := 0, cells := 0, slots := 0, locals := 0 } : Room) s m ([.ref h0] : List Value).toArray below meth c H locs 0 0 Q (F0 m 15 ls []) := by
      intro fu
      induction fu with
      | zero =>
        intro n f1 g1 H locs ls hn1 hn2 hf hg hm
        exact absurd hm (by omega)
      | succ fu ih_loop1 =>
        intro n f1 g1 H locs ls hn1 hn2 hf hg hm hP hD hS hl
        refine lv_iload_n hx hb dX12_worksAgain_15 rfl (lv_at hl 0 rfl) ?_
        refine lv_bipush (v := 100) hx hb dX12_worksAgain_16 (by decide) ?_
        refine lv_icmp_gt (tgt := 182) hx hb dX12_worksAgain_18 (by decide) (fun c_2 => ?_) (fun c_2 => ?_)
        · have hn3 : 100 < n := (nI_ltI (a := 100) (by omega) (by omega)).mp c_2
          exact x_vret (u := (f1, g1)) hx hb hr ⟨fun a b h1 h2 h3 h4 => hf a b h1 (by omega) h3 h4, fun a b h1 h2 h3 h4 => hg a b h1 (by omega) h3 h4⟩ hP hD hK hS [0, 1, 2] rfl (by decide) dX12_worksAgain_182 hlocks hQ
        · have hn3 : n ≤ 100 := by have h := mt (nI_ltI (a := 100) (by omega) (by omega)).mpr c_2; omega
          refine lv_aload_n hx hb dX12_worksAgain_21 rfl (lv_at hl 1 rfl) ?_
          refine va_get (D := D) (ci := 11) (v := .ref (ma 83)) (C := RX12) (T := TX12) (N := 85) hx hb hts inX12 hown hK hP 0 rfl rfl 83 (by decide) fl182 (fun _ h9 => h9) rfl dX12_worksAgain_22 ?_
          refine lv_bipush (v := 11) hx hb dX12_worksAgain_25 (by decide) ?_
          refine lv_iload_n hx hb dX12_worksAgain_27 rfl (lv_at hl 0 rfl) ?_
          refine lv_imul hx hb dX12_worksAgain_28 ?_
          refine lv_topi (fun i_3 ei_3 => ?_)
          obtain rfl : i_3 = (nI (11 * n)) := ei_3.trans (pk_mul 11 n)
          refine lv_iconst (v := 1) hx hb dX12_worksAgain_29 (by decide) ?_
          refine lv_iadd hx hb dX12_worksAgain_30 ?_
          refine lv_topi (fun i_4 ei_4 => ?_)
          obtain rfl : i_4 = (nI ((11 * n) + 1)) := ei_4.trans (nI_add (11 * n) 1)
          refine lv_iload_n hx hb dX12_worksAgain_31 rfl (lv_at hl 0 rfl) ?_
          refine lv_iload_n hx hb dX12_worksAgain_32 rfl (lv_at hl 0 rfl) ?_
          refine lv_iconst (v := 1) hx hb dX12_worksAgain_33 (by decide) ?_
          refine lv_isub hx hb dX12_worksAgain_34 ?_
          refine lv_topi (fun i_5 ei_5 => ?_)
          obtain rfl : i_5 = (nI (n - 1)) := ei_5.trans (pk_sub (a := n) (b := 1) (by omega))
          refine lv_imul hx hb dX12_worksAgain_35 ?_
          refine lv_topi (fun i_6 ei_6 => ?_)
          obtain rfl : i_6 = (nI (n * (n - 1))) := ei_6.trans (pk_mul n (n - 1))
          refine lv_iconst (v := 2) hx hb dX12_worksAgain_36 (by decide) ?_
          refine lv_idiv hx hb dX12_worksAgain_37 (by decide) ?_
          refine lv_topi (fun i_7 ei_7 => ?_)
          obtain rfl : i_7 = (nI ((n * (n - 1)) / 2)) := ei_7.trans (pk_div (a := (n * (n - 1))) (d := 2) (Nat.lt_of_le_of_lt (Nat.mul_le_mul (show n ≤ 100 by omega) (show n - 1 ≤ 99 by omega)) (by decide)) (by decide) (by decide))
          refine va_iast hx hb hK hP hD hS 1 2 rfl rfl (vp_in_nI (n := ((11 * n) + 1)) (by omega) (by decide)) dX12_worksAgain_38 (fun H locs hP hD hS => ?_)
          have hP : va_P D vwCl [(h0, .inr (11, mF ma (upd mi 82 1) mj)), ((ma 83), .inl (y 2, 1111, .inl (upd f1 (Int32.toNatClampNeg (nI ((11 * n) + 1))) (nI ((n * (n - 1)) / 2))))), ((ma 84), .inl (y 2, 1111, .inl g1))] H := hP
          have hD : va_D A [(h0, .inr (11, mF ma (upd mi 82 1) mj)), ((ma 83), .inl (y 2, 1111, .inl (upd f1 (Int32.toNatClampNeg (nI ((11 * n) + 1))) (nI ((n * (n - 1)) / 2))))), ((ma 84), .inl (y 2, 1111, .inl g1))] := hD
          obtain ⟨f_8, ef_8⟩ : ∃ z : Nat → Int32, z = (upd f1 (Int32.toNatClampNeg (nI ((11 * n) + 1))) (nI ((n * (n - 1)) / 2))) := ⟨_, rfl⟩
          rw [← ef_8] at hP hD
          rw [nI_clamp (n := ((11 * n) + 1)) (by omega)] at ef_8
          refine lv_aload_n hx hb dX12_worksAgain_39 rfl (lv_at hl 1 rfl) ?_
          refine va_get (D := D) (ci := 11) (v := .ref (ma 84)) (C := RX12) (T := TX12) (N := 85) hx hb hts inX12 hown hK hP 0 rfl rfl 84 (by decide) fl185 (fun _ h9 => h9) rfl dX12_worksAgain_40 ?_
          refine lv_bipush (v := 11) hx hb dX12_worksAgain_43 (by decide) ?_
          refine lv_iload_n hx hb dX12_worksAgain_45 rfl (lv_at hl 0 rfl) ?_
          refine lv_imul hx hb dX12_worksAgain_46 ?_
          refine lv_topi (fun i_9 ei_9 => ?_)
          obtain rfl : i_9 = (nI (11 * n)) := ei_9.trans (pk_mul 11 n)
          refine lv_iconst (v := 1) hx hb dX12_worksAgain_47 (by decide) ?_
          refine lv_iadd hx hb dX12_worksAgain_48 ?_
          refine lv_topi (fun i_10 ei_10 => ?_)
          obtain rfl : i_10 = (nI ((11 * n) + 1)) := ei_10.trans (nI_add (11 * n) 1)
          refine lv_iconst (v := (-1)) hx hb dX12_worksAgain_49 (by decide) ?_
          refine va_iast hx hb hK hP hD hS 2 2 rfl rfl (vp_in_nI (n := ((11 * n) + 1)) (by omega) (by decide)) dX12_worksAgain_50 (fun H locs hP hD hS => ?_)
          have hP : va_P D vwCl [(h0, .inr (11, mF ma (upd mi 82 1) mj)), ((ma 83), .inl (y 2, 1111, .inl f_8)), ((ma 84), .inl (y 2, 1111, .inl (upd g1 (Int32.toNatClampNeg (nI ((11 * n) + 1))) (-1))))] H := hP
          have hD : va_D A [(h0, .inr (11, mF ma (upd mi 82 1) mj)), ((ma 83), .inl (y 2, 1111, .inl f_8)), ((ma 84), .inl (y 2, 1111, .inl (upd g1 (Int32.toNatClampNeg (nI ((11 * n) + 1))) (-1))))] := hD
          obtain ⟨f_11, ef_11⟩ : ∃ z : Nat → Int32, z = (upd g1 (Int32.toNatClampNeg (nI ((11 * n) + 1))) (-1)) := ⟨_, rfl⟩
          rw [← ef_11] at hP hD
          rw [nI_clamp (n := ((11 * n) + 1)) (by omega)] at ef_11
          refine lv_iconst (v := 2) hx hb dX12_worksAgain_51 (by decide) ?_
          refine lv_istore_n (lv' := [(2, .int 2), (1, .int (nI n)), (0, .ref h0)]) hx hb dX12_worksAgain_52 rfl hl (by decide) rfl (fun ls hl => ?_)
          have loop2 : ∀ (fu : Nat) (k : Nat) (f2 : (Nat → Int32)) (g2 : (Nat → Int32)) (H : Heap) (locs : List Loc) (ls : Array Slot), (2 ≤ k) → (k ≤ 11) → (∀ a b : Nat, 1 ≤ a → a < n → 1 ≤ b → b ≤ 10 → f2 (11 * a + b) = nI (gg b a)) → (∀ a b : Nat, 1 ≤ a → a < n → 1 ≤ b → b ≤ 10 → g2 (11 * a + b) = gx b a) → (∀ b : Nat, 1 ≤ b → b < k → f2 (11 * n + b) = nI (gg b n)) → (∀ b : Nat, 1 ≤ b → b < k → g2 (11 * n + b) = gx b n) → ((11 : Int) - k < (fu : Int)) → va_P D vwCl [(h0, .inr (11, mF ma (upd mi 82 1) mj)), ((ma 83), .inl (y 2, 1111, .inl f2)), ((ma 84), .inl (y 2, 1111, .inl g2))] H → va_D A [(h0, .inr (11, mF ma (upd mi 82 1) mj)), ((ma 83), .inl (y 2, 1111, .inl f2)), ((ma 84), .inl (y 2, 1111, .inl g2))] → va_S A s.heap H locs → lv_has ls 6 [(2, .int (nI k)), (1, .int (nI n)), (0, .ref h0)] → W p l e ({ frames := 0, cells := 0, slots := 0, locals := 0 } : Room) s m ([.ref h0] : List Value).toArray below meth c H locs 0 0 Q (F0 m 53 ls []) := by
            intro fu
            induction fu with
            | zero =>
              intro k f2 g2 H locs ls hk1 hk2 hf2 hg2 hp hq hm
              exact absurd hm (by omega)
            | succ fu ih_loop2 =>
              intro k f2 g2 H locs ls hk1 hk2 hf2 hg2 hp hq hm hP hD hS hl
              refine lv_iload_n hx hb dX12_worksAgain_53 rfl (lv_at hl 0 rfl) ?_
              refine lv_bipush (v := 10) hx hb dX12_worksAgain_54 (by decide) ?_
              refine lv_icmp_gt (tgt := 176) hx hb dX12_worksAgain_56 (by decide) (fun c_12 => ?_) (fun c_12 => ?_)
              · have hk3 : 10 < k := (nI_ltI (a := 10) (by omega) (by omega)).mp c_12
                refine lv_iinc (v := (nI (n + 1))) (lv' := [(1, .int (nI (n + 1))), (2, .int (nI k)), (0, .ref h0)]) hx hb dX12_worksAgain_176 hl (k := 1) rfl (nI_1 n) (by decide) rfl (fun ls hl => ?_)
                refine lv_goto (tgt := 15) hx hb dX12_worksAgain_179 (by decide) ?_
                exact ih_loop1 (n + 1) f2 g2 H locs ls (by omega) (by omega) (fun a b h1 h2 h3 h4 => if h : a = n then (by rw [h]; exact hp b h3 (by omega)) else hf2 a b h1 (by omega) h3 h4) (fun a b h1 h2 h3 h4 => if h : a = n then (by rw [h]; exact hq b h3 (by omega)) else hg2 a b h1 (by omega) h3 h4) (by (try dsimp only); (try simp only [lg_cmp_lt, lg_cmp_le, lg_cmp_gt, lg_cmp_ge] at *); (try simp only [x_lt, x_le, Int32.reduceToInt, x_ltL, x_leL, Int64.reduceToInt] at *); omega) (x_subP hP [0, 1, 2] rfl) (x_subD hD [0, 1, 2] rfl (by decide)) hS (lv_sub hl [0, 2] rfl)
              · have hk3 : k ≤ 10 := by have h := mt (nI_ltI (a := 10) (by omega) (by omega)).mpr c_12; omega
                refine lv_iload_n hx hb dX12_worksAgain_59 rfl (lv_at hl 1 rfl) ?_
                refine lv_iconst (v := 1) hx hb dX12_worksAgain_60 (by decide) ?_
                refine lv_icmp_ne (tgt := 68) hx hb dX12_worksAgain_61 (by decide) (fun c_13 => ?_) (fun c_13 => ?_)
                · have hne : ¬ n = 1 := by intro h; exact c_13 (by rw [h]; rfl)
                  refine lv_ldcw (v := 1000000) hx hb hown (hts (.constant RX12 500 1000000) (by decide +kernel)) dX12_worksAgain_68 ?_
                  refine lv_istore_n (lv' := [(3, .int 1000000), (2, .int (nI k)), (1, .int (nI n)), (0, .ref h0)]) hx hb dX12_worksAgain_71 rfl hl (by decide) rfl (fun ls hl => ?_)
                  refine lv_aload_n hx hb dX12_worksAgain_72 rfl (lv_at hl 3 rfl) ?_
                  refine va_get (D := D) (ci := 11) (v := .ref (ma 84)) (C := RX12) (T := TX12) (N := 85) hx hb hts inX12 hown hK hP 0 rfl rfl 84 (by decide) fl185 (fun _ h9 => h9) rfl dX12_worksAgain_73 ?_
                  refine lv_bipush (v := 11) hx hb dX12_worksAgain_76 (by decide) ?_
                  refine lv_iload_n hx hb dX12_worksAgain_78 rfl (lv_at hl 2 rfl) ?_
                  refine lv_imul hx hb dX12_worksAgain_79 ?_
                  refine lv_topi (fun i_14 ei_14 => ?_)
                  obtain rfl : i_14 = (nI (11 * n)) := ei_14.trans (pk_mul 11 n)
                  refine lv_iload_n hx hb dX12_worksAgain_80 rfl (lv_at hl 1 rfl) ?_
                  refine lv_iadd hx hb dX12_worksAgain_81 ?_
                  refine lv_topi (fun i_15 ei_15 => ?_)
                  obtain rfl : i_15 = (nI ((11 * n) + k)) := ei_15.trans (nI_add (11 * n) k)
                  refine lv_iconst (v := (-1)) hx hb dX12_worksAgain_82 (by decide) ?_
                  refine va_iast hx hb hK hP hD hS 2 2 rfl rfl (vp_in_nI (n := ((11 * n) + k)) (by omega) (by decide)) dX12_worksAgain_83 (fun H locs hP hD hS => ?_)
                  have hP : va_P D vwCl [(h0, .inr (11, mF ma (upd mi 82 1) mj)), ((ma 83), .inl (y 2, 1111, .inl f2)), ((ma 84), .inl (y 2, 1111, .inl (upd g2 (Int32.toNatClampNeg (nI ((11 * n) + k))) (-1))))] H := hP
                  have hD : va_D A [(h0, .inr (11, mF ma (upd mi 82 1) mj)), ((ma 83), .inl (y 2, 1111, .inl f2)), ((ma 84), .inl (y 2, 1111, .inl (upd g2 (Int32.toNatClampNeg (nI ((11 * n) + k))) (-1))))] := hD
                  obtain ⟨f_16, ef_16⟩ : ∃ z : Nat → Int32, z = (upd g2 (Int32.toNatClampNeg (nI ((11 * n) + k))) (-1)) := ⟨_, rfl⟩
                  rw [← ef_16] at hP hD
                  rw [nI_clamp (n := ((11 * n) + k)) (by omega)] at ef_16
                  refine lv_iconst (v := 1) hx hb dX12_worksAgain_84 (by decide) ?_
                  refine lv_istore (lv' := [(4, .int 1), (3, .int 1000000), (2, .int (nI k)), (1, .int (nI n)), (0, .ref h0)]) hx hb dX12_worksAgain_85 hl (by decide) rfl (fun ls hl => ?_)
                  have loop3 : ∀ (fu : Nat) (j : Nat) (bs : Int32) (g3 : (Nat → Int32)) (H : Heap) (locs : List Loc) (ls : Array Slot), (1 ≤ j) → (j ≤ n) → (bs = if n = 1 then 0 else nI (gs (gc k n) (j - 1)).1) → (∀ x : Nat, x ≠ 11 * n + k → g3 x = g2 x) → (j = 1 → g3 (11 * n + k) = -1) → (2 ≤ j → g3 (11 * n + k) = nI (gs (gc k n) (j - 1)).2) → ((n : Int) - j < (fu : Int)) → va_P D vwCl [(h0, .inr (11, mF ma (upd mi 82 1) mj)), ((ma 83), .inl (y 2, 1111, .inl f2)), ((ma 84), .inl (y 2, 1111, .inl g3))] H → va_D A [(h0, .inr (11, mF ma (upd mi 82 1) mj)), ((ma 83), .inl (y 2, 1111, .inl f2)), ((ma 84), .inl (y 2, 1111, .inl g3))] → va_S A s.heap H locs → lv_has ls 6 [(4, .int (nI j)), (3, .int bs), (2, .int (nI k)), (1, .int (nI n)), (0, .ref h0)] → W p l e ({ frames := 0, cells := 0, slots := 0, locals := 0 } : Room) s m ([.ref h0] : List Value).toArray below meth c H locs 0 0 Q (F0 m 87 ls []) := by
                    intro fu
                    induction fu with
                    | zero =>
                      intro j bs g3 H locs ls hj1 hj2 hbs hg3 hv1 hv2 hm
                      exact absurd hm (by omega)
                    | succ fu ih_loop3 =>
                      intro j bs g3 H locs ls hj1 hj2 hbs hg3 hv1 hv2 hm hP hD hS hl
                      refine lv_iload hx hb dX12_worksAgain_87 (lv_at hl 0 rfl) ?_
                      refine lv_iload_n hx hb dX12_worksAgain_89 rfl (lv_at hl 3 rfl) ?_
                      refine lv_icmp_ge (tgt := 158) hx hb dX12_worksAgain_90 (by decide) (fun c_17 => ?_) (fun c_17 => ?_)
                      · have hjn : j = n := by have h := (nI_leI (by omega) (by omega)).mp c_17; omega
                        have hgg : bs = nI (gg k n) := by rw [hbs]; exact if h : n = 1 then (by rw [if_pos h, h, gg_one (by omega)]; rfl) else (by rw [if_neg h, gg_step hk1 (by omega), hjn])
                        have hgv : g3 (11 * n + k) = gx k n := by unfold gx; exact if h : n = 1 then (by rw [if_pos (Or.inr h)]; exact hv1 (by omega)) else (by rw [if_neg (by omega), hv2 (by omega), hjn]; rfl)
                        refine lv_aload_n hx hb dX12_worksAgain_158 rfl (lv_at hl 4 rfl) ?_
                        refine va_get (D := D) (ci := 11) (v := .ref (ma 83)) (C := RX12) (T := TX12) (N := 85) hx hb hts inX12 hown hK hP 0 rfl rfl 83 (by decide) fl182 (fun _ h9 => h9) rfl dX12_worksAgain_159 ?_
                        refine lv_bipush (v := 11) hx hb dX12_worksAgain_162 (by decide) ?_
                        refine lv_iload_n hx hb dX12_worksAgain_164 rfl (lv_at hl 3 rfl) ?_
                        refine lv_imul hx hb dX12_worksAgain_165 ?_
                        refine lv_topi (fun i_18 ei_18 => ?_)
                        obtain rfl : i_18 = (nI (11 * n)) := ei_18.trans (pk_mul 11 n)
                        refine lv_iload_n hx hb dX12_worksAgain_166 rfl (lv_at hl 2 rfl) ?_
                        refine lv_iadd hx hb dX12_worksAgain_167 ?_
                        refine lv_topi (fun i_19 ei_19 => ?_)
                        obtain rfl : i_19 = (nI ((11 * n) + k)) := ei_19.trans (nI_add (11 * n) k)
                        refine lv_iload_n hx hb dX12_worksAgain_168 rfl (lv_at hl 1 rfl) ?_
                        refine va_iast hx hb hK hP hD hS 1 2 rfl rfl (vp_in_nI (n := ((11 * n) + k)) (by omega) (by decide)) dX12_worksAgain_169 (fun H locs hP hD hS => ?_)
                        have hP : va_P D vwCl [(h0, .inr (11, mF ma (upd mi 82 1) mj)), ((ma 83), .inl (y 2, 1111, .inl (upd f2 (Int32.toNatClampNeg (nI ((11 * n) + k))) bs))), ((ma 84), .inl (y 2, 1111, .inl g3))] H := hP
                        have hD : va_D A [(h0, .inr (11, mF ma (upd mi 82 1) mj)), ((ma 83), .inl (y 2, 1111, .inl (upd f2 (Int32.toNatClampNeg (nI ((11 * n) + k))) bs))), ((ma 84), .inl (y 2, 1111, .inl g3))] := hD
                        obtain ⟨f_20, ef_20⟩ : ∃ z : Nat → Int32, z = (upd f2 (Int32.toNatClampNeg (nI ((11 * n) + k))) bs) := ⟨_, rfl⟩
                        rw [← ef_20] at hP hD
                        rw [nI_clamp (n := ((11 * n) + k)) (by omega)] at ef_20
                        refine lv_iinc (v := (nI (k + 1))) (lv' := [(2, .int (nI (k + 1))), (4, .int (nI j)), (3, .int bs), (1, .int (nI n)), (0, .ref h0)]) hx hb dX12_worksAgain_170 hl (k := 2) rfl (nI_1 k) (by decide) rfl (fun ls hl => ?_)
                        refine lv_goto (tgt := 53) hx hb dX12_worksAgain_173 (by decide) ?_
                        exact ih_loop2 (k + 1) f_20 g3 H locs ls (by omega) (by omega) (by intro a b h1 h2 h3 h4; rw [ef_20, pk_un (by omega)]; exact hf2 a b h1 h2 h3 h4) (by intro a b h1 h2 h3 h4; rw [hg3 _ (by omega)]; exact hg2 a b h1 h2 h3 h4) (by intro b h1 h2; rw [ef_20]; exact if h : b = k then (by rw [h, pk_us]; exact hgg) else (by rw [pk_un (by omega)]; exact hp b h1 (by omega))) (by intro b h1 h2; exact if h : b = k then (by rw [h]; exact hgv) else (by rw [hg3 _ (by omega)]; exact hq b h1 (by omega))) (by (try dsimp only); (try simp only [lg_cmp_lt, lg_cmp_le, lg_cmp_gt, lg_cmp_ge] at *); (try simp only [x_lt, x_le, Int32.reduceToInt, x_ltL, x_leL, Int64.reduceToInt] at *); omega) (x_subP hP [0, 1, 2] rfl) (x_subD hD [0, 1, 2] rfl (by decide)) hS (lv_sub hl [0, 3, 4] rfl)
                      · have hjn : j < n := by have h := mt (nI_leI (by omega) (by omega)).mpr c_17; omega
                        refine lv_iload hx hb dX12_worksAgain_93 (lv_at hl 0 rfl) ?_
                        refine lv_aload_n hx hb dX12_worksAgain_95 rfl (lv_at hl 4 rfl) ?_
                        refine va_get (D := D) (ci := 11) (v := .ref (ma 83)) (C := RX12) (T := TX12) (N := 85) hx hb hts inX12 hown hK hP 0 rfl rfl 83 (by decide) fl182 (fun _ h9 => h9) rfl dX12_worksAgain_96 ?_
                        refine lv_bipush (v := 11) hx hb dX12_worksAgain_99 (by decide) ?_
                        refine lv_iload hx hb dX12_worksAgain_101 (lv_at hl 0 rfl) ?_
                        refine lv_imul hx hb dX12_worksAgain_103 ?_
                        refine lv_topi (fun i_21 ei_21 => ?_)
                        obtain rfl : i_21 = (nI (11 * j)) := ei_21.trans (pk_mul 11 j)
                        refine lv_iload_n hx hb dX12_worksAgain_104 rfl (lv_at hl 2 rfl) ?_
                        refine lv_iadd hx hb dX12_worksAgain_105 ?_
                        refine lv_topi (fun i_22 ei_22 => ?_)
                        obtain rfl : i_22 = (nI ((11 * j) + k)) := ei_22.trans (nI_add (11 * j) k)
                        refine va_iald hx hb hK hP 1 2 rfl rfl (vp_in_nI (n := ((11 * j) + k)) (by omega) (by decide)) dX12_worksAgain_106 ?_
                        refine lv_topi (fun i_23 ei_23 => ?_)
                        rw [nI_clamp (n := ((11 * j) + k)) (by omega)] at ei_23
                        refine lv_iadd hx hb dX12_worksAgain_107 ?_
                        refine lv_topi (fun i_24 ei_24 => ?_)
                        refine lv_aload_n hx hb dX12_worksAgain_108 rfl (lv_at hl 4 rfl) ?_
                        refine va_get (D := D) (ci := 11) (v := .ref (ma 83)) (C := RX12) (T := TX12) (N := 85) hx hb hts inX12 hown hK hP 0 rfl rfl 83 (by decide) fl182 (fun _ h9 => h9) rfl dX12_worksAgain_109 ?_
                        refine lv_bipush (v := 11) hx hb dX12_worksAgain_112 (by decide) ?_
                        refine lv_iload_n hx hb dX12_worksAgain_114 rfl (lv_at hl 3 rfl) ?_
                        refine lv_iload hx hb dX12_worksAgain_115 (lv_at hl 0 rfl) ?_
                        refine lv_isub hx hb dX12_worksAgain_117 ?_
                        refine lv_topi (fun i_25 ei_25 => ?_)
                        obtain rfl : i_25 = (nI (n - j)) := ei_25.trans (pk_sub (a := n) (b := j) (by omega))
                        refine lv_imul hx hb dX12_worksAgain_118 ?_
                        refine lv_topi (fun i_26 ei_26 => ?_)
                        obtain rfl : i_26 = (nI (11 * (n - j))) := ei_26.trans (pk_mul 11 (n - j))
                        refine lv_iload_n hx hb dX12_worksAgain_119 rfl (lv_at hl 2 rfl) ?_
                        refine lv_iadd hx hb dX12_worksAgain_120 ?_
                        refine lv_topi (fun i_27 ei_27 => ?_)
                        obtain rfl : i_27 = (nI ((11 * (n - j)) + k)) := ei_27.trans (nI_add (11 * (n - j)) k)
                        refine lv_iconst (v := 1) hx hb dX12_worksAgain_121 (by decide) ?_
                        refine lv_isub hx hb dX12_worksAgain_122 ?_
                        refine lv_topi (fun i_28 ei_28 => ?_)
                        obtain rfl : i_28 = (nI (((11 * (n - j)) + k) - 1)) := ei_28.trans (pk_sub (a := ((11 * (n - j)) + k)) (b := 1) (by omega))
                        refine va_iald hx hb hK hP 1 2 rfl rfl (vp_in_nI (n := (((11 * (n - j)) + k) - 1)) (by omega) (by decide)) dX12_worksAgain_123 ?_
                        refine lv_topi (fun i_29 ei_29 => ?_)
                        rw [nI_clamp (n := (((11 * (n - j)) + k) - 1)) (by omega)] at ei_29
                        refine lv_iadd hx hb dX12_worksAgain_124 ?_
                        refine lv_topi (fun i_30 ei_30 => ?_)
                        refine lv_istore (lv' := [(5, .int i_30), (4, .int (nI j)), (3, .int bs), (2, .int (nI k)), (1, .int (nI n)), (0, .ref h0)]) hx hb dX12_worksAgain_125 hl (by decide) rfl (fun ls hl => ?_)
                        have hc : i_30 = nI (gc k n j) := by rw [ei_30, ei_24, ei_23, ei_29, show 11 * (n - j) + k - 1 = 11 * (n - j) + (k - 1) by omega, hf2 j k hj1 hjn (by omega) (by omega), hf2 (n - j) (k - 1) (by omega) (by omega) (by omega) (by omega), nI_add, nI_add]; rfl
                        have hlt : gc k n j < 20000 := gc_lt hk1 (by omega) (by omega) hjn
                        have htp := (gs_top (c := gc k n) (j - 1)).1
                        have e1 : gs (gc k n) j = if gc k n j < (gs (gc k n) (j - 1)).1 then (gc k n j, j) else gs (gc k n) (j - 1) := by obtain ⟨q, rfl⟩ : ∃ q, j = q + 1 := ⟨j - 1, by omega⟩; exact gs_step _ q
                        rw [if_neg (by omega)] at hbs
                        refine lv_iload hx hb dX12_worksAgain_127 (lv_at hl 0 rfl) ?_
                        refine lv_iload_n hx hb dX12_worksAgain_129 rfl (lv_at hl 2 rfl) ?_
                        refine lv_icmp_lt (tgt := 136) hx hb dX12_worksAgain_130 (by decide) (fun c_31 => ?_) (fun c_31 => ?_)
                        · have hye : gc k n j < (gs (gc k n) (j - 1)).1 := by rw [hc, hbs] at c_31; exact (nI_ltI (by omega) (by omega)).mp c_31
                          have e2 : gs (gc k n) (j + 1 - 1) = (gc k n j, j) := by rw [Nat.add_sub_cancel, e1, if_pos hye]
                          have hbn := hc
                          refine lv_iload hx hb dX12_worksAgain_136 (lv_at hl 0 rfl) ?_
                          refine lv_istore_n (lv' := [(3, .int i_30), (5, .int i_30), (4, .int (nI j)), (2, .int (nI k)), (1, .int (nI n)), (0, .ref h0)]) hx hb dX12_worksAgain_138 rfl hl (by decide) rfl (fun ls hl => ?_)
                          refine lv_aload_n hx hb dX12_worksAgain_139 rfl (lv_at hl 5 rfl) ?_
                          refine va_get (D := D) (ci := 11) (v := .ref (ma 84)) (C := RX12) (T := TX12) (N := 85) hx hb hts inX12 hown hK hP 0 rfl rfl 84 (by decide) fl185 (fun _ h9 => h9) rfl dX12_worksAgain_140 ?_
                          refine lv_bipush (v := 11) hx hb dX12_worksAgain_143 (by decide) ?_
                          refine lv_iload_n hx hb dX12_worksAgain_145 rfl (lv_at hl 4 rfl) ?_
                          refine lv_imul hx hb dX12_worksAgain_146 ?_
                          refine lv_topi (fun i_32 ei_32 => ?_)
                          obtain rfl : i_32 = (nI (11 * n)) := ei_32.trans (pk_mul 11 n)
                          refine lv_iload_n hx hb dX12_worksAgain_147 rfl (lv_at hl 3 rfl) ?_
                          refine lv_iadd hx hb dX12_worksAgain_148 ?_
                          refine lv_topi (fun i_33 ei_33 => ?_)
                          obtain rfl : i_33 = (nI ((11 * n) + k)) := ei_33.trans (nI_add (11 * n) k)
                          refine lv_iload hx hb dX12_worksAgain_149 (lv_at hl 2 rfl) ?_
                          refine va_iast hx hb hK hP hD hS 2 2 rfl rfl (vp_in_nI (n := ((11 * n) + k)) (by omega) (by decide)) dX12_worksAgain_151 (fun H locs hP hD hS => ?_)
                          have hP : va_P D vwCl [(h0, .inr (11, mF ma (upd mi 82 1) mj)), ((ma 83), .inl (y 2, 1111, .inl f2)), ((ma 84), .inl (y 2, 1111, .inl (upd g3 (Int32.toNatClampNeg (nI ((11 * n) + k))) (nI j))))] H := hP
                          have hD : va_D A [(h0, .inr (11, mF ma (upd mi 82 1) mj)), ((ma 83), .inl (y 2, 1111, .inl f2)), ((ma 84), .inl (y 2, 1111, .inl (upd g3 (Int32.toNatClampNeg (nI ((11 * n) + k))) (nI j))))] := hD
                          obtain ⟨f_34, ef_34⟩ : ∃ z : Nat → Int32, z = (upd g3 (Int32.toNatClampNeg (nI ((11 * n) + k))) (nI j)) := ⟨_, rfl⟩
                          rw [← ef_34] at hP hD
                          rw [nI_clamp (n := ((11 * n) + k)) (by omega)] at ef_34
                          refine lv_iinc (v := (nI (j + 1))) (lv' := [(4, .int (nI (j + 1))), (3, .int i_30), (5, .int i_30), (2, .int (nI k)), (1, .int (nI n)), (0, .ref h0)]) hx hb dX12_worksAgain_152 hl (k := 2) rfl (nI_1 j) (by decide) rfl (fun ls hl => ?_)
                          refine lv_goto (tgt := 87) hx hb dX12_worksAgain_155 (by decide) ?_
                          exact ih_loop3 (j + 1) i_30 f_34 H locs ls (by omega) (by omega) (by rw [if_neg (by omega), e2]; exact hbn) (by intro x h; rw [ef_34, pk_un h]; exact hg3 x h) (fun h => absurd h (by omega)) (by intro _; rw [e2, ef_34, pk_us]) (by (try dsimp only); (try simp only [lg_cmp_lt, lg_cmp_le, lg_cmp_gt, lg_cmp_ge] at *); (try simp only [x_lt, x_le, Int32.reduceToInt, x_ltL, x_leL, Int64.reduceToInt] at *); omega) (x_subP hP [0, 1, 2] rfl) (x_subD hD [0, 1, 2] rfl (by decide)) hS (lv_sub hl [0, 1, 3, 4, 5] rfl)
                        · have hno : ¬ gc k n j < (gs (gc k n) (j - 1)).1 := by rw [hc, hbs] at c_31; exact mt (nI_ltI (by omega) (by omega)).mpr c_31
                          have e2 : gs (gc k n) (j + 1 - 1) = gs (gc k n) (j - 1) := by rw [Nat.add_sub_cancel, e1, if_neg hno]
                          have hbn := hbs
                          refine lv_goto (tgt := 152) hx hb dX12_worksAgain_133 (by decide) ?_
                          refine lv_iinc (v := (nI (j + 1))) (lv' := [(4, .int (nI (j + 1))), (5, .int i_30), (3, .int bs), (2, .int (nI k)), (1, .int (nI n)), (0, .ref h0)]) hx hb dX12_worksAgain_152 hl (k := 1) rfl (nI_1 j) (by decide) rfl (fun ls hl => ?_)
                          refine lv_goto (tgt := 87) hx hb dX12_worksAgain_155 (by decide) ?_
                          exact ih_loop3 (j + 1) bs g3 H locs ls (by omega) (by omega) (by rw [if_neg (by omega), e2]; exact hbn) hg3 (fun h => absurd h (by omega)) (by intro _; rw [e2]; exact hv2 ((Nat.lt_or_ge 1 j).elim id (fun q => absurd (show gc k n j < (gs (gc k n) (j - 1)).1 by rw [show j - 1 = 0 by omega]; show gc k n j < 1000000; omega) hno))) (by (try dsimp only); (try simp only [lg_cmp_lt, lg_cmp_le, lg_cmp_gt, lg_cmp_ge] at *); (try simp only [x_lt, x_le, Int32.reduceToInt, x_ltL, x_leL, Int64.reduceToInt] at *); omega) (x_subP hP [0, 1, 2] rfl) (x_subD hD [0, 1, 2] rfl (by decide)) hS (lv_sub hl [0, 2, 3, 4, 5] rfl)
                  exact loop3 (n + 1) 1 1000000 f_16 H locs ls (Nat.le_refl 1) (by omega) (by first | (rw [if_pos hne]) | (rw [if_neg hne]; rfl)) (by intro x h; rw [ef_16, pk_un h]) (by intro _; rw [ef_16, pk_us]) (fun h => absurd h (by omega)) (by (try dsimp only); (try simp only [lg_cmp_lt, lg_cmp_le, lg_cmp_gt, lg_cmp_ge] at *); (try simp only [x_lt, x_le, Int32.reduceToInt, x_ltL, x_leL, Int64.reduceToInt] at *); omega) (x_subP hP [0, 1, 2] rfl) (x_subD hD [0, 1, 2] rfl (by decide)) hS (lv_sub hl [0, 1, 2, 3, 4] rfl)
                · have hne : n = 1 := by have h := c_13; rw [x_eq, nI_toInt (by omega)] at h; simp only [Int32.reduceToInt] at h; omega
                  refine lv_iconst (v := 0) hx hb dX12_worksAgain_64 (by decide) ?_
                  refine lv_goto (tgt := 71) hx hb dX12_worksAgain_65 (by decide) ?_
                  refine lv_istore_n (lv' := [(3, .int 0), (2, .int (nI k)), (1, .int (nI n)), (0, .ref h0)]) hx hb dX12_worksAgain_71 rfl hl (by decide) rfl (fun ls hl => ?_)
                  refine lv_aload_n hx hb dX12_worksAgain_72 rfl (lv_at hl 3 rfl) ?_
                  refine va_get (D := D) (ci := 11) (v := .ref (ma 84)) (C := RX12) (T := TX12) (N := 85) hx hb hts inX12 hown hK hP 0 rfl rfl 84 (by decide) fl185 (fun _ h9 => h9) rfl dX12_worksAgain_73 ?_
                  refine lv_bipush (v := 11) hx hb dX12_worksAgain_76 (by decide) ?_
                  refine lv_iload_n hx hb dX12_worksAgain_78 rfl (lv_at hl 2 rfl) ?_
                  refine lv_imul hx hb dX12_worksAgain_79 ?_
                  refine lv_topi (fun i_35 ei_35 => ?_)
                  obtain rfl : i_35 = (nI (11 * n)) := ei_35.trans (pk_mul 11 n)
                  refine lv_iload_n hx hb dX12_worksAgain_80 rfl (lv_at hl 1 rfl) ?_
                  refine lv_iadd hx hb dX12_worksAgain_81 ?_
                  refine lv_topi (fun i_36 ei_36 => ?_)
                  obtain rfl : i_36 = (nI ((11 * n) + k)) := ei_36.trans (nI_add (11 * n) k)
                  refine lv_iconst (v := (-1)) hx hb dX12_worksAgain_82 (by decide) ?_
                  refine va_iast hx hb hK hP hD hS 2 2 rfl rfl (vp_in_nI (n := ((11 * n) + k)) (by omega) (by decide)) dX12_worksAgain_83 (fun H locs hP hD hS => ?_)
                  have hP : va_P D vwCl [(h0, .inr (11, mF ma (upd mi 82 1) mj)), ((ma 83), .inl (y 2, 1111, .inl f2)), ((ma 84), .inl (y 2, 1111, .inl (upd g2 (Int32.toNatClampNeg (nI ((11 * n) + k))) (-1))))] H := hP
                  have hD : va_D A [(h0, .inr (11, mF ma (upd mi 82 1) mj)), ((ma 83), .inl (y 2, 1111, .inl f2)), ((ma 84), .inl (y 2, 1111, .inl (upd g2 (Int32.toNatClampNeg (nI ((11 * n) + k))) (-1))))] := hD
                  obtain ⟨f_37, ef_37⟩ : ∃ z : Nat → Int32, z = (upd g2 (Int32.toNatClampNeg (nI ((11 * n) + k))) (-1)) := ⟨_, rfl⟩
                  rw [← ef_37] at hP hD
                  rw [nI_clamp (n := ((11 * n) + k)) (by omega)] at ef_37
                  refine lv_iconst (v := 1) hx hb dX12_worksAgain_84 (by decide) ?_
                  refine lv_istore (lv' := [(4, .int 1), (3, .int 0), (2, .int (nI k)), (1, .int (nI n)), (0, .ref h0)]) hx hb dX12_worksAgain_85 hl (by decide) rfl (fun ls hl => ?_)
                  have loop3 : ∀ (fu : Nat) (j : Nat) (bs : Int32) (g3 : (Nat → Int32)) (H : Heap) (locs : List Loc) (ls : Array Slot), (1 ≤ j) → (j ≤ n) → (bs = if n = 1 then 0 else nI (gs (gc k n) (j - 1)).1) → (∀ x : Nat, x ≠ 11 * n + k → g3 x = g2 x) → (j = 1 → g3 (11 * n + k) = -1) → (2 ≤ j → g3 (11 * n + k) = nI (gs (gc k n) (j - 1)).2) → ((n : Int) - j < (fu : Int)) → va_P D vwCl [(h0, .inr (11, mF ma (upd mi 82 1) mj)), ((ma 83), .inl (y 2, 1111, .inl f2)), ((ma 84), .inl (y 2, 1111, .inl g3))] H → va_D A [(h0, .inr (11, mF ma (upd mi 82 1) mj)), ((ma 83), .inl (y 2, 1111, .inl f2)), ((ma 84), .inl (y 2, 1111, .inl g3))] → va_S A s.heap H locs → lv_has ls 6 [(4, .int (nI j)), (3, .int bs), (2, .int (nI k)), (1, .int (nI n)), (0, .ref h0)] → W p l e ({ frames := 0, cells := 0, slots := 0, locals := 0 } : Room) s m ([.ref h0] : List Value).toArray below meth c H locs 0 0 Q (F0 m 87 ls []) := by
                    intro fu
                    induction fu with
                    | zero =>
                      intro j bs g3 H locs ls hj1 hj2 hbs hg3 hv1 hv2 hm
                      exact absurd hm (by omega)
                    | succ fu ih_loop3 =>
                      intro j bs g3 H locs ls hj1 hj2 hbs hg3 hv1 hv2 hm hP hD hS hl
                      refine lv_iload hx hb dX12_worksAgain_87 (lv_at hl 0 rfl) ?_
                      refine lv_iload_n hx hb dX12_worksAgain_89 rfl (lv_at hl 3 rfl) ?_
                      refine lv_icmp_ge (tgt := 158) hx hb dX12_worksAgain_90 (by decide) (fun c_38 => ?_) (fun c_38 => ?_)
                      · have hjn : j = n := by have h := (nI_leI (by omega) (by omega)).mp c_38; omega
                        have hgg : bs = nI (gg k n) := by rw [hbs]; exact if h : n = 1 then (by rw [if_pos h, h, gg_one (by omega)]; rfl) else (by rw [if_neg h, gg_step hk1 (by omega), hjn])
                        have hgv : g3 (11 * n + k) = gx k n := by unfold gx; exact if h : n = 1 then (by rw [if_pos (Or.inr h)]; exact hv1 (by omega)) else (by rw [if_neg (by omega), hv2 (by omega), hjn]; rfl)
                        refine lv_aload_n hx hb dX12_worksAgain_158 rfl (lv_at hl 4 rfl) ?_
                        refine va_get (D := D) (ci := 11) (v := .ref (ma 83)) (C := RX12) (T := TX12) (N := 85) hx hb hts inX12 hown hK hP 0 rfl rfl 83 (by decide) fl182 (fun _ h9 => h9) rfl dX12_worksAgain_159 ?_
                        refine lv_bipush (v := 11) hx hb dX12_worksAgain_162 (by decide) ?_
                        refine lv_iload_n hx hb dX12_worksAgain_164 rfl (lv_at hl 3 rfl) ?_
                        refine lv_imul hx hb dX12_worksAgain_165 ?_
                        refine lv_topi (fun i_39 ei_39 => ?_)
                        obtain rfl : i_39 = (nI (11 * n)) := ei_39.trans (pk_mul 11 n)
                        refine lv_iload_n hx hb dX12_worksAgain_166 rfl (lv_at hl 2 rfl) ?_
                        refine lv_iadd hx hb dX12_worksAgain_167 ?_
                        refine lv_topi (fun i_40 ei_40 => ?_)
                        obtain rfl : i_40 = (nI ((11 * n) + k)) := ei_40.trans (nI_add (11 * n) k)
                        refine lv_iload_n hx hb dX12_worksAgain_168 rfl (lv_at hl 1 rfl) ?_
                        refine va_iast hx hb hK hP hD hS 1 2 rfl rfl (vp_in_nI (n := ((11 * n) + k)) (by omega) (by decide)) dX12_worksAgain_169 (fun H locs hP hD hS => ?_)
                        have hP : va_P D vwCl [(h0, .inr (11, mF ma (upd mi 82 1) mj)), ((ma 83), .inl (y 2, 1111, .inl (upd f2 (Int32.toNatClampNeg (nI ((11 * n) + k))) bs))), ((ma 84), .inl (y 2, 1111, .inl g3))] H := hP
                        have hD : va_D A [(h0, .inr (11, mF ma (upd mi 82 1) mj)), ((ma 83), .inl (y 2, 1111, .inl (upd f2 (Int32.toNatClampNeg (nI ((11 * n) + k))) bs))), ((ma 84), .inl (y 2, 1111, .inl g3))] := hD
                        obtain ⟨f_41, ef_41⟩ : ∃ z : Nat → Int32, z = (upd f2 (Int32.toNatClampNeg (nI ((11 * n) + k))) bs) := ⟨_, rfl⟩
                        rw [← ef_41] at hP hD
                        rw [nI_clamp (n := ((11 * n) + k)) (by omega)] at ef_41
                        refine lv_iinc (v := (nI (k + 1))) (lv' := [(2, .int (nI (k + 1))), (4, .int (nI j)), (3, .int bs), (1, .int (nI n)), (0, .ref h0)]) hx hb dX12_worksAgain_170 hl (k := 2) rfl (nI_1 k) (by decide) rfl (fun ls hl => ?_)
                        refine lv_goto (tgt := 53) hx hb dX12_worksAgain_173 (by decide) ?_
                        exact ih_loop2 (k + 1) f_41 g3 H locs ls (by omega) (by omega) (by intro a b h1 h2 h3 h4; rw [ef_41, pk_un (by omega)]; exact hf2 a b h1 h2 h3 h4) (by intro a b h1 h2 h3 h4; rw [hg3 _ (by omega)]; exact hg2 a b h1 h2 h3 h4) (by intro b h1 h2; rw [ef_41]; exact if h : b = k then (by rw [h, pk_us]; exact hgg) else (by rw [pk_un (by omega)]; exact hp b h1 (by omega))) (by intro b h1 h2; exact if h : b = k then (by rw [h]; exact hgv) else (by rw [hg3 _ (by omega)]; exact hq b h1 (by omega))) (by (try dsimp only); (try simp only [lg_cmp_lt, lg_cmp_le, lg_cmp_gt, lg_cmp_ge] at *); (try simp only [x_lt, x_le, Int32.reduceToInt, x_ltL, x_leL, Int64.reduceToInt] at *); omega) (x_subP hP [0, 1, 2] rfl) (x_subD hD [0, 1, 2] rfl (by decide)) hS (lv_sub hl [0, 3, 4] rfl)
                      · have hjn : j < n := by have h := mt (nI_leI (by omega) (by omega)).mpr c_38; omega
                        refine lv_iload hx hb dX12_worksAgain_93 (lv_at hl 0 rfl) ?_
                        refine lv_aload_n hx hb dX12_worksAgain_95 rfl (lv_at hl 4 rfl) ?_
                        refine va_get (D := D) (ci := 11) (v := .ref (ma 83)) (C := RX12) (T := TX12) (N := 85) hx hb hts inX12 hown hK hP 0 rfl rfl 83 (by decide) fl182 (fun _ h9 => h9) rfl dX12_worksAgain_96 ?_
                        refine lv_bipush (v := 11) hx hb dX12_worksAgain_99 (by decide) ?_
                        refine lv_iload hx hb dX12_worksAgain_101 (lv_at hl 0 rfl) ?_
                        refine lv_imul hx hb dX12_worksAgain_103 ?_
                        refine lv_topi (fun i_42 ei_42 => ?_)
                        obtain rfl : i_42 = (nI (11 * j)) := ei_42.trans (pk_mul 11 j)
                        refine lv_iload_n hx hb dX12_worksAgain_104 rfl (lv_at hl 2 rfl) ?_
                        refine lv_iadd hx hb dX12_worksAgain_105 ?_
                        refine lv_topi (fun i_43 ei_43 => ?_)
                        obtain rfl : i_43 = (nI ((11 * j) + k)) := ei_43.trans (nI_add (11 * j) k)
                        refine va_iald hx hb hK hP 1 2 rfl rfl (vp_in_nI (n := ((11 * j) + k)) (by omega) (by decide)) dX12_worksAgain_106 ?_
                        refine lv_topi (fun i_44 ei_44 => ?_)
                        rw [nI_clamp (n := ((11 * j) + k)) (by omega)] at ei_44
                        refine lv_iadd hx hb dX12_worksAgain_107 ?_
                        refine lv_topi (fun i_45 ei_45 => ?_)
                        refine lv_aload_n hx hb dX12_worksAgain_108 rfl (lv_at hl 4 rfl) ?_
                        refine va_get (D := D) (ci := 11) (v := .ref (ma 83)) (C := RX12) (T := TX12) (N := 85) hx hb hts inX12 hown hK hP 0 rfl rfl 83 (by decide) fl182 (fun _ h9 => h9) rfl dX12_worksAgain_109 ?_
                        refine lv_bipush (v := 11) hx hb dX12_worksAgain_112 (by decide) ?_
                        refine lv_iload_n hx hb dX12_worksAgain_114 rfl (lv_at hl 3 rfl) ?_
                        refine lv_iload hx hb dX12_worksAgain_115 (lv_at hl 0 rfl) ?_
                        refine lv_isub hx hb dX12_worksAgain_117 ?_
                        refine lv_topi (fun i_46 ei_46 => ?_)
                        obtain rfl : i_46 = (nI (n - j)) := ei_46.trans (pk_sub (a := n) (b := j) (by omega))
                        refine lv_imul hx hb dX12_worksAgain_118 ?_
                        refine lv_topi (fun i_47 ei_47 => ?_)
                        obtain rfl : i_47 = (nI (11 * (n - j))) := ei_47.trans (pk_mul 11 (n - j))
                        refine lv_iload_n hx hb dX12_worksAgain_119 rfl (lv_at hl 2 rfl) ?_
                        refine lv_iadd hx hb dX12_worksAgain_120 ?_
                        refine lv_topi (fun i_48 ei_48 => ?_)
                        obtain rfl : i_48 = (nI ((11 * (n - j)) + k)) := ei_48.trans (nI_add (11 * (n - j)) k)
                        refine lv_iconst (v := 1) hx hb dX12_worksAgain_121 (by decide) ?_
                        refine lv_isub hx hb dX12_worksAgain_122 ?_
                        refine lv_topi (fun i_49 ei_49 => ?_)
                        obtain rfl : i_49 = (nI (((11 * (n - j)) + k) - 1)) := ei_49.trans (pk_sub (a := ((11 * (n - j)) + k)) (b := 1) (by omega))
                        refine va_iald hx hb hK hP 1 2 rfl rfl (vp_in_nI (n := (((11 * (n - j)) + k) - 1)) (by omega) (by decide)) dX12_worksAgain_123 ?_
                        refine lv_topi (fun i_50 ei_50 => ?_)
                        rw [nI_clamp (n := (((11 * (n - j)) + k) - 1)) (by omega)] at ei_50
                        refine lv_iadd hx hb dX12_worksAgain_124 ?_
                        refine lv_topi (fun i_51 ei_51 => ?_)
                        refine lv_istore (lv' := [(5, .int i_51), (4, .int (nI j)), (3, .int bs), (2, .int (nI k)), (1, .int (nI n)), (0, .ref h0)]) hx hb dX12_worksAgain_125 hl (by decide) rfl (fun ls hl => ?_)
                        have hc : i_51 = nI (gc k n j) := by rw [ei_51, ei_45, ei_44, ei_50, show 11 * (n - j) + k - 1 = 11 * (n - j) + (k - 1) by omega, hf2 j k hj1 hjn (by omega) (by omega), hf2 (n - j) (k - 1) (by omega) (by omega) (by omega) (by omega), nI_add, nI_add]; rfl
                        have hlt : gc k n j < 20000 := gc_lt hk1 (by omega) (by omega) hjn
                        have htp := (gs_top (c := gc k n) (j - 1)).1
                        have e1 : gs (gc k n) j = if gc k n j < (gs (gc k n) (j - 1)).1 then (gc k n j, j) else gs (gc k n) (j - 1) := by obtain ⟨q, rfl⟩ : ∃ q, j = q + 1 := ⟨j - 1, by omega⟩; exact gs_step _ q
                        rw [if_neg (by omega)] at hbs
                        refine lv_iload hx hb dX12_worksAgain_127 (lv_at hl 0 rfl) ?_
                        refine lv_iload_n hx hb dX12_worksAgain_129 rfl (lv_at hl 2 rfl) ?_
                        refine lv_icmp_lt (tgt := 136) hx hb dX12_worksAgain_130 (by decide) (fun c_52 => ?_) (fun c_52 => ?_)
                        · have hye : gc k n j < (gs (gc k n) (j - 1)).1 := by rw [hc, hbs] at c_52; exact (nI_ltI (by omega) (by omega)).mp c_52
                          have e2 : gs (gc k n) (j + 1 - 1) = (gc k n j, j) := by rw [Nat.add_sub_cancel, e1, if_pos hye]
                          have hbn := hc
                          refine lv_iload hx hb dX12_worksAgain_136 (lv_at hl 0 rfl) ?_
                          refine lv_istore_n (lv' := [(3, .int i_51), (5, .int i_51), (4, .int (nI j)), (2, .int (nI k)), (1, .int (nI n)), (0, .ref h0)]) hx hb dX12_worksAgain_138 rfl hl (by decide) rfl (fun ls hl => ?_)
                          refine lv_aload_n hx hb dX12_worksAgain_139 rfl (lv_at hl 5 rfl) ?_
                          refine va_get (D := D) (ci := 11) (v := .ref (ma 84)) (C := RX12) (T := TX12) (N := 85) hx hb hts inX12 hown hK hP 0 rfl rfl 84 (by decide) fl185 (fun _ h9 => h9) rfl dX12_worksAgain_140 ?_
                          refine lv_bipush (v := 11) hx hb dX12_worksAgain_143 (by decide) ?_
                          refine lv_iload_n hx hb dX12_worksAgain_145 rfl (lv_at hl 4 rfl) ?_
                          refine lv_imul hx hb dX12_worksAgain_146 ?_
                          refine lv_topi (fun i_53 ei_53 => ?_)
                          obtain rfl : i_53 = (nI (11 * n)) := ei_53.trans (pk_mul 11 n)
                          refine lv_iload_n hx hb dX12_worksAgain_147 rfl (lv_at hl 3 rfl) ?_
                          refine lv_iadd hx hb dX12_worksAgain_148 ?_
                          refine lv_topi (fun i_54 ei_54 => ?_)
                          obtain rfl : i_54 = (nI ((11 * n) + k)) := ei_54.trans (nI_add (11 * n) k)
                          refine lv_iload hx hb dX12_worksAgain_149 (lv_at hl 2 rfl) ?_
                          refine va_iast hx hb hK hP hD hS 2 2 rfl rfl (vp_in_nI (n := ((11 * n) + k)) (by omega) (by decide)) dX12_worksAgain_151 (fun H locs hP hD hS => ?_)
                          have hP : va_P D vwCl [(h0, .inr (11, mF ma (upd mi 82 1) mj)), ((ma 83), .inl (y 2, 1111, .inl f2)), ((ma 84), .inl (y 2, 1111, .inl (upd g3 (Int32.toNatClampNeg (nI ((11 * n) + k))) (nI j))))] H := hP
                          have hD : va_D A [(h0, .inr (11, mF ma (upd mi 82 1) mj)), ((ma 83), .inl (y 2, 1111, .inl f2)), ((ma 84), .inl (y 2, 1111, .inl (upd g3 (Int32.toNatClampNeg (nI ((11 * n) + k))) (nI j))))] := hD
                          obtain ⟨f_55, ef_55⟩ : ∃ z : Nat → Int32, z = (upd g3 (Int32.toNatClampNeg (nI ((11 * n) + k))) (nI j)) := ⟨_, rfl⟩
                          rw [← ef_55] at hP hD
                          rw [nI_clamp (n := ((11 * n) + k)) (by omega)] at ef_55
                          refine lv_iinc (v := (nI (j + 1))) (lv' := [(4, .int (nI (j + 1))), (3, .int i_51), (5, .int i_51), (2, .int (nI k)), (1, .int (nI n)), (0, .ref h0)]) hx hb dX12_worksAgain_152 hl (k := 2) rfl (nI_1 j) (by decide) rfl (fun ls hl => ?_)
                          refine lv_goto (tgt := 87) hx hb dX12_worksAgain_155 (by decide) ?_
                          exact ih_loop3 (j + 1) i_51 f_55 H locs ls (by omega) (by omega) (by rw [if_neg (by omega), e2]; exact hbn) (by intro x h; rw [ef_55, pk_un h]; exact hg3 x h) (fun h => absurd h (by omega)) (by intro _; rw [e2, ef_55, pk_us]) (by (try dsimp only); (try simp only [lg_cmp_lt, lg_cmp_le, lg_cmp_gt, lg_cmp_ge] at *); (try simp only [x_lt, x_le, Int32.reduceToInt, x_ltL, x_leL, Int64.reduceToInt] at *); omega) (x_subP hP [0, 1, 2] rfl) (x_subD hD [0, 1, 2] rfl (by decide)) hS (lv_sub hl [0, 1, 3, 4, 5] rfl)
                        · have hno : ¬ gc k n j < (gs (gc k n) (j - 1)).1 := by rw [hc, hbs] at c_52; exact mt (nI_ltI (by omega) (by omega)).mpr c_52
                          have e2 : gs (gc k n) (j + 1 - 1) = gs (gc k n) (j - 1) := by rw [Nat.add_sub_cancel, e1, if_neg hno]
                          have hbn := hbs
                          refine lv_goto (tgt := 152) hx hb dX12_worksAgain_133 (by decide) ?_
                          refine lv_iinc (v := (nI (j + 1))) (lv' := [(4, .int (nI (j + 1))), (5, .int i_51), (3, .int bs), (2, .int (nI k)), (1, .int (nI n)), (0, .ref h0)]) hx hb dX12_worksAgain_152 hl (k := 1) rfl (nI_1 j) (by decide) rfl (fun ls hl => ?_)
                          refine lv_goto (tgt := 87) hx hb dX12_worksAgain_155 (by decide) ?_
                          exact ih_loop3 (j + 1) bs g3 H locs ls (by omega) (by omega) (by rw [if_neg (by omega), e2]; exact hbn) hg3 (fun h => absurd h (by omega)) (by intro _; rw [e2]; exact hv2 ((Nat.lt_or_ge 1 j).elim id (fun q => absurd (show gc k n j < (gs (gc k n) (j - 1)).1 by rw [show j - 1 = 0 by omega]; show gc k n j < 1000000; omega) hno))) (by (try dsimp only); (try simp only [lg_cmp_lt, lg_cmp_le, lg_cmp_gt, lg_cmp_ge] at *); (try simp only [x_lt, x_le, Int32.reduceToInt, x_ltL, x_leL, Int64.reduceToInt] at *); omega) (x_subP hP [0, 1, 2] rfl) (x_subD hD [0, 1, 2] rfl (by decide)) hS (lv_sub hl [0, 2, 3, 4, 5] rfl)
                  exact loop3 (n + 1) 1 0 f_37 H locs ls (Nat.le_refl 1) (by omega) (by first | (rw [if_pos hne]) | (rw [if_neg hne]; rfl)) (by intro x h; rw [ef_37, pk_un h]) (by intro _; rw [ef_37, pk_us]) (fun h => absurd h (by omega)) (by (try dsimp only); (try simp only [lg_cmp_lt, lg_cmp_le, lg_cmp_gt, lg_cmp_ge] at *); (try simp only [x_lt, x_le, Int32.reduceToInt, x_ltL, x_leL, Int64.reduceToInt] at *); omega) (x_subP hP [0, 1, 2] rfl) (x_subD hD [0, 1, 2] rfl (by decide)) hS (lv_sub hl [0, 1, 2, 3, 4] rfl)
          exact loop2 12 2 f_8 f_11 H locs ls (Nat.le_refl 2) (by decide) (by intro a b h1 h2 h3 h4; rw [ef_8, pk_un (by omega)]; exact hf a b h1 h2 h3 h4) (by intro a b h1 h2 h3 h4; rw [ef_11, pk_un (by omega)]; exact hg a b h1 h2 h3 h4) (by intro b h1 h2; rw [show b = 1 by omega, ef_8, pk_us]; rfl) (by intro b h1 h2; rw [show b = 1 by omega, ef_11, pk_us]; rfl) (by (try dsimp only); (try simp only [lg_cmp_lt, lg_cmp_le, lg_cmp_gt, lg_cmp_ge] at *); (try simp only [x_lt, x_le, Int32.reduceToInt, x_ltL, x_leL, Int64.reduceToInt] at *); omega) (x_subP hP [0, 1, 2] rfl) (x_subD hD [0, 1, 2] rfl (by decide)) hS (lv_sub hl [0, 1, 2] rfl)
    exact loop1 102 1 f g H locs ls (Nat.le_refl 1) (by decide) (fun a b h1 h2 => absurd h2 (by omega)) (fun a b h1 h2 => absurd h2 (by omega)) (by (try dsimp only); (try simp only [lg_cmp_lt, lg_cmp_le, lg_cmp_gt, lg_cmp_ge] at *); (try simp only [x_lt, x_le, Int32.reduceToInt, x_ltL, x_leL, Int64.reduceToInt] at *); omega) (x_subP hP [0, 1, 2] rfl) (x_subD hD [0, 1, 2] rfl (by decide)) hS (lv_sub hl [0, 1] rfl)
  · exact absurd (by decide) c_1
/-- the reference's tables, once they are worked -/
def AW (f g : Nat → Int32) : Prop := (∀ a b : Nat, 1 ≤ a → a ≤ 100 → 1 ≤ b → b ≤ 10 → f (11 * a + b) = nI (gg b a)) ∧ (∀ a b : Nat, 1 ≤ a → a ≤ 100 → 1 ≤ b → b ≤ 10 → g (11 * a + b) = gx b a)
def AT (n : Int32) (f g : Nat → Int32) : Prop := n = 0 ∨ AW f g
theorem mF_z {y : Nat → ClassId} {ad : Nat → Nat} {zw : Nat → Nat → Int32} {σ : OS} (hz : σ.1 82 = 0) : mwd_f0 y ad zw σ = mF ad (upd σ.1 82 0) σ.2.1 := by
  have e : upd σ.1 82 0 = σ.1 := by
    funext k
    unfold upd
    split
    · rename_i h; rw [h, hz]
    · rfl
  exact (congrArg (fun f => mF ad f σ.2.1) e).symm
set_option maxHeartbeats 4000000 in
set_option maxRecDepth 100000 in
theorem wk_e1 {y : Nat → ClassId} {ad : Nat → Nat} {zw : Nat → Nat → Int32} {σ : OS} (hz : σ.1 82 = 0) : ([0, 56, 57] : List Nat).map (fun i => (mwd y ad zw σ)[i]?) = ([((ad 1), .inr (11, mF ad (upd σ.1 82 0) σ.2.1)), ((ad 83), .inl (y 2, 1111, .inl (σ.2.2.1 83))), ((ad 84), .inl (y 2, 1111, .inl (σ.2.2.1 84)))] : va_W).map some := by
  rw [← mF_z (y := y) (zw := zw) hz]
  rfl
set_option maxHeartbeats 4000000 in
set_option maxRecDepth 100000 in
theorem wk_e2 (y : Nat → ClassId) (ad : Nat → Nat) (zw : Nat → Nat → Int32) (σ : OS) (u : (Nat → Int32) × (Nat → Int32)) : mwd y ad zw (tI (tI (sI σ 82 1) 83 u.1) 84 u.2) = setAll (mwd y ad zw σ) [0, 56, 57] [((ad 1), .inr (11, mF ad (upd σ.1 82 1) σ.2.1)), ((ad 83), .inl (y 2, 1111, .inl u.1)), ((ad 84), .inl (y 2, 1111, .inl u.2))] := rfl
set_option maxHeartbeats 4000000 in
set_option maxRecDepth 100000 in
theorem q_worksAgain1 (l : Launch) (D : va_G) (y : Nat → ClassId) (sz : Nat) (ad : Nat → Nat) (zw : Nat → Nat → Int32) (σ : OS) (hz : σ.1 82 ≠ 0) : Met l yX12_worksAgain v_q_worksAgain ({ frames := 0, cells := 0, slots := 0, locals := 0 } : Room) (va_Pc [.ref (ad 1)] (xPre D (xT y) (mwd y ad zw σ) sz)) (va_Qv (fun (_ : Unit) => True) (fun (_ : Unit) => xB D (xT y) (va_A (mwd y ad zw σ) sz) (mwd y ad zw σ)) (va_A (mwd y ad zw σ) sz)) 0 0 (va_A (mwd y ad zw σ) sz) := by
  refine x_metv (cc := cX12_worksAgain) (maxL := 6) (by decide) rfl (Nat.le_of_ble_eq_true rfl) ?_
  intro p e s m below meth c A H locs Q hx hb hml hown hts hr hlocks hmn hA hP hK hD hS ls hl hQ
  have hl : lv_has ls 6 [(0, .ref (ad 1))] := hl
  have fl497 := hts (.fieldLink RX12 497 "SlopeRunnerModel" "hasAgain" "Z") (List.mem_of_getElem? (i := 1) rfl)
  have inX12 : ∀ w ∈ wsX120, w ∈ v_q_worksAgain := (fun w h => List.mem_cons_of_mem _ (List.mem_append_right _ h))
  have fl182 := hts (.fieldLink RX12 182 "SlopeRunnerModel" "again" "[I") (List.mem_of_getElem? (i := 2) rfl)
  have fl185 := hts (.fieldLink RX12 185 "SlopeRunnerModel" "firstKept" "[I") (List.mem_of_getElem? (i := 3) rfl)
  refine lv_aload_n hx hb dX12_worksAgain_0 rfl (lv_at hl 0 rfl) ?_
  refine va_get (D := D) (ci := 11) (v := .int (σ.1 82)) (C := RX12) (T := TX12) (N := 85) hx hb hts inX12 hown hK hP 0 mwd_o0 rfl 82 (by decide) fl497 (fun _ h9 => h9) rfl dX12_worksAgain_1 ?_
  refine lv_if_eq (tgt := 8) hx hb dX12_worksAgain_4 (by decide) (fun c_1 => absurd c_1 hz) (fun c_1 => ?_)
  exact x_vretW (u := ()) hx hb hr hQ trivial hP hD hK hS dX12_worksAgain_7 hlocks
set_option maxHeartbeats 4000000 in
set_option maxRecDepth 100000 in
theorem q_againT (l : Launch) (D : va_G) (y : Nat → ClassId) (sz : Nat) (ad : Nat → Nat) (zw : Nat → Nat → Int32) (σ : OS) (n k : Int32) (hat : AT (σ.1 82) (σ.2.2.1 83) (σ.2.2.1 84)) : Met l yX12_again v_q_again ({ frames := 1, cells := 0, slots := 0, locals := 25 } : Room) (va_Pc [.ref (ad 1), .int n, .int k] (xPre D (xT y) (mwd y ad zw σ) sz)) (va_Qi (fun (r : Int32) (u : Int32 × (Nat → Int32) × (Nat → Int32)) => r = ga n k ∧ AT u.1 u.2.1 u.2.2) (fun (u : Int32 × (Nat → Int32) × (Nat → Int32)) => xB D (xT y) (va_A (mwd y ad zw σ) sz) (mwd y ad zw (tI (tI (sI σ 82 u.1) 83 u.2.1) 84 u.2.2))) (va_A (mwd y ad zw σ) sz)) 0 0 (va_A (mwd y ad zw σ) sz) := by
  refine x_meti (cc := cX12_again) (maxL := 3) (by decide) rfl (Nat.le_of_ble_eq_true rfl) ?_
  intro p e s m below meth c A H locs Q hx hb hml hown hts hr hlocks hmn hA hP hK hD hS ls hl hQ
  have hl : lv_has ls 3 [(0, .ref (ad 1)), (1, .int n), (2, .int k)] := hl
  have kl_1 : (1 : Int64).toInt = 1 := rfl
  have kl_100 : (100 : Int64).toInt = 100 := rfl
  have kk_0 : (0 : Int32).toInt = 0 := rfl
  have kk_m1 : ((-1) : Int32).toInt = -1 := rfl
  have kl_10 : (10 : Int64).toInt = 10 := rfl
  have fl182 := hts (.fieldLink RX12 182 "SlopeRunnerModel" "again" "[I") (List.mem_of_getElem? (i := 1) rfl)
  have inX12 : ∀ w ∈ wsX120, w ∈ v_q_again := (fun w h => List.mem_cons_of_mem _ (List.mem_append_right _ (List.mem_append_right _ (List.mem_append_right _ h))))
  have kk_11 : (11 : Int32).toInt = 11 := rfl
  refine lv_iload_n hx hb dX12_again_0 rfl (lv_at hl 1 rfl) ?_
  refine lv_i2l hx hb dX12_again_1 rfl ?_
  refine lv_topl (fun j_1 ej_1 => ?_)
  have vj_1 : j_1.toInt = n.toInt := by rw [ej_1]; exact Int32.toInt_toInt64 _
  refine lv_lconst (v := 1) hx hb dX12_again_2 (by decide) ?_
  refine lv_ldc2 (v := 100) hx hb hown (hts (.constantLong RX12 501 100) (List.mem_of_getElem? (i := 2) rfl)) dX12_again_3 ?_
  refine x_calliN (va_runS (As := [.long j_1, .long 1, .long 100]) (rest := []) ⟨hx, hb, hml, hown, hts⟩ (q_isIn l D y H.size j_1 1 100) (cwS 3 hts g_q_again_0 rfl rfl rfl (by decide +kernel) ⟨Nat.le_of_ble_eq_true rfl, Nat.le_of_ble_eq_true rfl⟩) (x_preS hK (x_nilP D H) (x_nilD A)) rfl rfl hl.1 rfl (lv_room (Nat.le_of_ble_eq_true rfl)) dX12_again_6 ⟨Nat.le_of_ble_eq_true rfl, Nat.le_of_ble_eq_true rfl⟩) hP hD hS hA (fun r_2 u H locs hw hP hD hS => ?_)
  try dsimp only at hw
  refine lv_if_eq (tgt := 24) hx hb dX12_again_9 (by decide) (fun c_3 => ?_) (fun c_3 => ?_)
  · have kc_3 : r_2.toInt = 0 := by have h9 := c_3; simp only [ge_iff_le, gt_iff_lt, x_lt, x_le, x_eq, ne_eq, Int32.not_lt, Int32.not_le] at h9; simp only [Int32.reduceToInt] at h9; omega
    refine lv_iconst (v := (-1)) hx hb dX12_again_24 (by decide) ?_
    have hP : va_P D vwCl (mwd y ad zw (tI (tI (sI σ 82 (σ.1 82)) 83 (σ.2.2.1 83)) 84 (σ.2.2.1 84))) H := hP
    have hD : va_D A (mwd y ad zw (tI (tI (sI σ 82 (σ.1 82)) 83 (σ.2.2.1 83)) 84 (σ.2.2.1 84))) := hD
    exact x_iretW (v := (-1)) (u := ((σ.1 82), (σ.2.2.1 83), (σ.2.2.1 84))) hx hb hr hQ ⟨(by show (-1 : Int32) = ga n k; unfold ga; rw [if_neg (by omega)]), hat⟩ hP hD hK hS dX12_again_25 hlocks
  · have kc_3 : r_2.toInt ≠ 0 := by have h9 := c_3; simp only [ge_iff_le, gt_iff_lt, x_lt, x_le, x_eq, ne_eq, Int32.not_lt, Int32.not_le] at h9; simp only [Int32.reduceToInt] at h9; omega
    refine lv_iload_n hx hb dX12_again_12 rfl (lv_at hl 2 rfl) ?_
    refine lv_i2l hx hb dX12_again_13 rfl ?_
    refine lv_topl (fun j_4 ej_4 => ?_)
    have vj_4 : j_4.toInt = k.toInt := by rw [ej_4]; exact Int32.toInt_toInt64 _
    refine lv_lconst (v := 1) hx hb dX12_again_14 (by decide) ?_
    refine lv_ldc2 (v := 10) hx hb hown (hts (.constantLong RX12 503 10) (List.mem_of_getElem? (i := 3) rfl)) dX12_again_15 ?_
    refine x_calliN (va_runS (As := [.long j_4, .long 1, .long 10]) (rest := []) ⟨hx, hb, hml, hown, hts⟩ (q_isIn l D y H.size j_4 1 10) (cwS 3 hts g_q_again_0 rfl rfl rfl (by decide +kernel) ⟨Nat.le_of_ble_eq_true rfl, Nat.le_of_ble_eq_true rfl⟩) (x_preS hK (x_nilP D H) (x_nilD A)) rfl rfl hl.1 rfl (lv_room (Nat.le_of_ble_eq_true rfl)) dX12_again_18 ⟨Nat.le_of_ble_eq_true rfl, Nat.le_of_ble_eq_true rfl⟩) hP hD hS hA (fun r_5 u H locs hw hP hD hS => ?_)
    try dsimp only at hw
    refine lv_if_ne (tgt := 26) hx hb dX12_again_21 (by decide) (fun c_6 => ?_) (fun c_6 => ?_)
    · have kc_6 : r_5.toInt ≠ 0 := by have h9 := c_6; simp only [ge_iff_le, gt_iff_lt, x_lt, x_le, x_eq, ne_eq, Int32.not_lt, Int32.not_le] at h9; simp only [Int32.reduceToInt] at h9; omega
      refine lv_aload_n hx hb dX12_again_26 rfl (lv_at hl 0 rfl) ?_
      by_cases hz : σ.1 82 = 0
      · refine x_callvS (S := (Nat → Int32) × (Nat → Int32)) (w1 := fun u => [((ad 1), .inr (11, mF ad (upd σ.1 82 1) σ.2.1)), ((ad 83), .inl (y 2, 1111, .inl u.1)), ((ad 84), .inl (y 2, 1111, .inl u.2))]) (b1 := fun u => mwd y ad zw (tI (tI (sI σ 82 1) 83 u.1) 84 u.2)) [0, 56, 57] (va_runV (As := []) (rest := []) ⟨hx, hb, hml, hown, hts⟩ (m_worksAgain0 l D y H.size (ad 1) ad σ.1 σ.2.1 (σ.2.2.1 83) (σ.2.2.1 84)) (cwV 0 hts g_q_again_1 rfl rfl rfl (by decide +kernel) ⟨Nat.le_of_ble_eq_true rfl, Nat.le_of_ble_eq_true rfl⟩) (x_preV (q := (RX12, TX12, 85)) hK (x_suP hP [0, 56, 57] (wk_e1 hz)) (x_suD hD [0, 56, 57] (wk_e1 hz) (by decide)) (ci := 11) (q0 := 0) rfl rfl) rfl rfl hl.1 rfl (lv_room (Nat.le_of_ble_eq_true rfl)) dX12_again_27 ⟨Nat.le_of_ble_eq_true rfl, Nat.le_of_ble_eq_true rfl⟩) hP hD hS hA (wk_e1 hz) (fun u => wk_e2 y ad zw σ u) (fun _ => rfl) (fun _ => rfl) (fun u H locs hT hP hD hS => ?_)
        have hT : AW u.1 u.2 := hT
        refine lv_aload_n hx hb dX12_again_30 rfl (lv_at hl 0 rfl) ?_
        refine va_get (D := D) (ci := 11) (v := .ref (ad 83)) (C := RX12) (T := TX12) (N := 85) hx hb hts inX12 hown hK hP 0 mwd_o0 rfl 83 (by decide) fl182 (fun _ h9 => h9) rfl dX12_again_31 ?_
        refine lv_bipush (v := 11) hx hb dX12_again_34 (by decide) ?_
        refine lv_iload_n hx hb dX12_again_36 rfl (lv_at hl 1 rfl) ?_
        refine lv_imul hx hb dX12_again_37 ?_
        refine lv_topi (fun i_10 ei_10 => ?_)
        have vi_10 : i_10.toInt = 11 * n.toInt := by have h9 := x_mulIl (n := 11) ei_10 rfl (by omega) (by omega); omega
        refine lv_iload_n hx hb dX12_again_38 rfl (lv_at hl 2 rfl) ?_
        refine lv_iadd hx hb dX12_again_39 ?_
        refine lv_topi (fun i_11 ei_11 => ?_)
        have vi_11 : i_11.toInt = i_10.toInt + k.toInt := by have h9 := x_add ei_11 (by omega) (by omega); omega
        refine va_iald hx hb hK hP 56 2 mwd_a56 rfl (x_in (by omega) (by omega)) dX12_again_40 ?_
        refine lv_topi (fun i_12 ei_12 => ?_)
        have ei_12 : i_12 = u.1 (Int32.toNatClampNeg i_11) := ei_12
        have hfin : i_12 = ga n k := (by rw [ei_12, show Int32.toNatClampNeg i_11 = 11 * n.toInt.toNat + k.toInt.toNat from (by show i_11.toInt.toNat = _; omega), hT.1 n.toInt.toNat k.toInt.toNat (by omega) (by omega) (by omega) (by omega)]; unfold ga; rw [if_pos (by omega)])
        exact x_iretW (v := i_12) (u := ((1 : Int32), u.1, u.2)) hx hb hr hQ ⟨hfin, Or.inr hT⟩ hP hD hK hS dX12_again_41 hlocks
      · have hT : AW (σ.2.2.1 83) (σ.2.2.1 84) := hat.resolve_left hz
        refine x_callvW (va_runV (As := []) (rest := []) ⟨hx, hb, hml, hown, hts⟩ (q_worksAgain1 l D y H.size ad zw σ hz) (cwV 0 hts g_q_again_1 rfl rfl rfl (by decide +kernel) ⟨Nat.le_of_ble_eq_true rfl, Nat.le_of_ble_eq_true rfl⟩) (x_preV (q := (RX12, TX12, 85)) hK hP hD (ci := 11) (q0 := 0) rfl mwd_o0) rfl rfl hl.1 rfl (lv_room (Nat.le_of_ble_eq_true rfl)) dX12_again_27 ⟨Nat.le_of_ble_eq_true rfl, Nat.le_of_ble_eq_true rfl⟩) hP hD hS hA (fun u H locs hw hP hD hS => ?_)
        have hP : va_P D vwCl (mwd y ad zw (tI (tI (sI σ 82 (σ.1 82)) 83 (σ.2.2.1 83)) 84 (σ.2.2.1 84))) H := hP
        have hD : va_D A (mwd y ad zw (tI (tI (sI σ 82 (σ.1 82)) 83 (σ.2.2.1 83)) 84 (σ.2.2.1 84))) := hD
        refine lv_aload_n hx hb dX12_again_30 rfl (lv_at hl 0 rfl) ?_
        refine va_get (D := D) (ci := 11) (v := .ref (ad 83)) (C := RX12) (T := TX12) (N := 85) hx hb hts inX12 hown hK hP 0 mwd_o0 rfl 83 (by decide) fl182 (fun _ h9 => h9) rfl dX12_again_31 ?_
        refine lv_bipush (v := 11) hx hb dX12_again_34 (by decide) ?_
        refine lv_iload_n hx hb dX12_again_36 rfl (lv_at hl 1 rfl) ?_
        refine lv_imul hx hb dX12_again_37 ?_
        refine lv_topi (fun i_10 ei_10 => ?_)
        have vi_10 : i_10.toInt = 11 * n.toInt := by have h9 := x_mulIl (n := 11) ei_10 rfl (by omega) (by omega); omega
        refine lv_iload_n hx hb dX12_again_38 rfl (lv_at hl 2 rfl) ?_
        refine lv_iadd hx hb dX12_again_39 ?_
        refine lv_topi (fun i_11 ei_11 => ?_)
        have vi_11 : i_11.toInt = i_10.toInt + k.toInt := by have h9 := x_add ei_11 (by omega) (by omega); omega
        refine va_iald hx hb hK hP 56 2 mwd_a56 rfl (x_in (by omega) (by omega)) dX12_again_40 ?_
        refine lv_topi (fun i_12 ei_12 => ?_)
        have ei_12 : i_12 = (σ.2.2.1 83) (Int32.toNatClampNeg i_11) := ei_12
        have hfin : i_12 = ga n k := (by rw [ei_12, show Int32.toNatClampNeg i_11 = 11 * n.toInt.toNat + k.toInt.toNat from (by show i_11.toInt.toNat = _; omega), hT.1 n.toInt.toNat k.toInt.toNat (by omega) (by omega) (by omega) (by omega)]; unfold ga; rw [if_pos (by omega)])
        exact x_iretW (v := i_12) (u := ((σ.1 82), (σ.2.2.1 83), (σ.2.2.1 84))) hx hb hr hQ ⟨hfin, Or.inr hT⟩ hP hD hK hS dX12_again_41 hlocks
    · have kc_6 : r_5.toInt = 0 := by have h9 := c_6; simp only [ge_iff_le, gt_iff_lt, x_lt, x_le, x_eq, ne_eq, Int32.not_lt, Int32.not_le] at h9; simp only [Int32.reduceToInt] at h9; omega
      refine lv_iconst (v := (-1)) hx hb dX12_again_24 (by decide) ?_
      have hP : va_P D vwCl (mwd y ad zw (tI (tI (sI σ 82 (σ.1 82)) 83 (σ.2.2.1 83)) 84 (σ.2.2.1 84))) H := hP
      have hD : va_D A (mwd y ad zw (tI (tI (sI σ 82 (σ.1 82)) 83 (σ.2.2.1 83)) 84 (σ.2.2.1 84))) := hD
      exact x_iretW (v := (-1)) (u := ((σ.1 82), (σ.2.2.1 83), (σ.2.2.1 84))) hx hb hr hQ ⟨(by show (-1 : Int32) = ga n k; unfold ga; rw [if_neg (by omega)]), hat⟩ hP hD hK hS dX12_again_25 hlocks
set_option maxHeartbeats 4000000 in
set_option maxRecDepth 100000 in
theorem q_firstT (l : Launch) (D : va_G) (y : Nat → ClassId) (sz : Nat) (ad : Nat → Nat) (zw : Nat → Nat → Int32) (σ : OS) (n k : Int32) (hat : AT (σ.1 82) (σ.2.2.1 83) (σ.2.2.1 84)) : Met l yX12_first v_q_first ({ frames := 1, cells := 0, slots := 0, locals := 25 } : Room) (va_Pc [.ref (ad 1), .int n, .int k] (xPre D (xT y) (mwd y ad zw σ) sz)) (va_Qi (fun (r : Int32) (u : Int32 × (Nat → Int32) × (Nat → Int32)) => r = gb n k ∧ AT u.1 u.2.1 u.2.2) (fun (u : Int32 × (Nat → Int32) × (Nat → Int32)) => xB D (xT y) (va_A (mwd y ad zw σ) sz) (mwd y ad zw (tI (tI (sI σ 82 u.1) 83 u.2.1) 84 u.2.2))) (va_A (mwd y ad zw σ) sz)) 0 0 (va_A (mwd y ad zw σ) sz) := by
  refine x_meti (cc := cX12_first) (maxL := 3) (by decide) rfl (Nat.le_of_ble_eq_true rfl) ?_
  intro p e s m below meth c A H locs Q hx hb hml hown hts hr hlocks hmn hA hP hK hD hS ls hl hQ
  have hl : lv_has ls 3 [(0, .ref (ad 1)), (1, .int n), (2, .int k)] := hl
  have kl_1 : (1 : Int64).toInt = 1 := rfl
  have kl_100 : (100 : Int64).toInt = 100 := rfl
  have kk_0 : (0 : Int32).toInt = 0 := rfl
  have kk_m1 : ((-1) : Int32).toInt = -1 := rfl
  have kl_10 : (10 : Int64).toInt = 10 := rfl
  have fl185 := hts (.fieldLink RX12 185 "SlopeRunnerModel" "firstKept" "[I") (List.mem_of_getElem? (i := 1) rfl)
  have inX12 : ∀ w ∈ wsX120, w ∈ v_q_first := (fun w h => List.mem_cons_of_mem _ (List.mem_append_right _ (List.mem_append_right _ (List.mem_append_right _ h))))
  have kk_11 : (11 : Int32).toInt = 11 := rfl
  refine lv_iload_n hx hb dX12_first_0 rfl (lv_at hl 1 rfl) ?_
  refine lv_i2l hx hb dX12_first_1 rfl ?_
  refine lv_topl (fun j_1 ej_1 => ?_)
  have vj_1 : j_1.toInt = n.toInt := by rw [ej_1]; exact Int32.toInt_toInt64 _
  refine lv_lconst (v := 1) hx hb dX12_first_2 (by decide) ?_
  refine lv_ldc2 (v := 100) hx hb hown (hts (.constantLong RX12 501 100) (List.mem_of_getElem? (i := 2) rfl)) dX12_first_3 ?_
  refine x_calliN (va_runS (As := [.long j_1, .long 1, .long 100]) (rest := []) ⟨hx, hb, hml, hown, hts⟩ (q_isIn l D y H.size j_1 1 100) (cwS 3 hts g_q_first_0 rfl rfl rfl (by decide +kernel) ⟨Nat.le_of_ble_eq_true rfl, Nat.le_of_ble_eq_true rfl⟩) (x_preS hK (x_nilP D H) (x_nilD A)) rfl rfl hl.1 rfl (lv_room (Nat.le_of_ble_eq_true rfl)) dX12_first_6 ⟨Nat.le_of_ble_eq_true rfl, Nat.le_of_ble_eq_true rfl⟩) hP hD hS hA (fun r_2 u H locs hw hP hD hS => ?_)
  try dsimp only at hw
  refine lv_if_eq (tgt := 24) hx hb dX12_first_9 (by decide) (fun c_3 => ?_) (fun c_3 => ?_)
  · have kc_3 : r_2.toInt = 0 := by have h9 := c_3; simp only [ge_iff_le, gt_iff_lt, x_lt, x_le, x_eq, ne_eq, Int32.not_lt, Int32.not_le] at h9; simp only [Int32.reduceToInt] at h9; omega
    refine lv_iconst (v := (-1)) hx hb dX12_first_24 (by decide) ?_
    have hP : va_P D vwCl (mwd y ad zw (tI (tI (sI σ 82 (σ.1 82)) 83 (σ.2.2.1 83)) 84 (σ.2.2.1 84))) H := hP
    have hD : va_D A (mwd y ad zw (tI (tI (sI σ 82 (σ.1 82)) 83 (σ.2.2.1 83)) 84 (σ.2.2.1 84))) := hD
    exact x_iretW (v := (-1)) (u := ((σ.1 82), (σ.2.2.1 83), (σ.2.2.1 84))) hx hb hr hQ ⟨(by show (-1 : Int32) = gb n k; unfold gb; rw [if_neg (by omega)]), hat⟩ hP hD hK hS dX12_first_25 hlocks
  · have kc_3 : r_2.toInt ≠ 0 := by have h9 := c_3; simp only [ge_iff_le, gt_iff_lt, x_lt, x_le, x_eq, ne_eq, Int32.not_lt, Int32.not_le] at h9; simp only [Int32.reduceToInt] at h9; omega
    refine lv_iload_n hx hb dX12_first_12 rfl (lv_at hl 2 rfl) ?_
    refine lv_i2l hx hb dX12_first_13 rfl ?_
    refine lv_topl (fun j_4 ej_4 => ?_)
    have vj_4 : j_4.toInt = k.toInt := by rw [ej_4]; exact Int32.toInt_toInt64 _
    refine lv_lconst (v := 1) hx hb dX12_first_14 (by decide) ?_
    refine lv_ldc2 (v := 10) hx hb hown (hts (.constantLong RX12 503 10) (List.mem_of_getElem? (i := 3) rfl)) dX12_first_15 ?_
    refine x_calliN (va_runS (As := [.long j_4, .long 1, .long 10]) (rest := []) ⟨hx, hb, hml, hown, hts⟩ (q_isIn l D y H.size j_4 1 10) (cwS 3 hts g_q_first_0 rfl rfl rfl (by decide +kernel) ⟨Nat.le_of_ble_eq_true rfl, Nat.le_of_ble_eq_true rfl⟩) (x_preS hK (x_nilP D H) (x_nilD A)) rfl rfl hl.1 rfl (lv_room (Nat.le_of_ble_eq_true rfl)) dX12_first_18 ⟨Nat.le_of_ble_eq_true rfl, Nat.le_of_ble_eq_true rfl⟩) hP hD hS hA (fun r_5 u H locs hw hP hD hS => ?_)
    try dsimp only at hw
    refine lv_if_ne (tgt := 26) hx hb dX12_first_21 (by decide) (fun c_6 => ?_) (fun c_6 => ?_)
    · have kc_6 : r_5.toInt ≠ 0 := by have h9 := c_6; simp only [ge_iff_le, gt_iff_lt, x_lt, x_le, x_eq, ne_eq, Int32.not_lt, Int32.not_le] at h9; simp only [Int32.reduceToInt] at h9; omega
      refine lv_aload_n hx hb dX12_first_26 rfl (lv_at hl 0 rfl) ?_
      by_cases hz : σ.1 82 = 0
      · refine x_callvS (S := (Nat → Int32) × (Nat → Int32)) (w1 := fun u => [((ad 1), .inr (11, mF ad (upd σ.1 82 1) σ.2.1)), ((ad 83), .inl (y 2, 1111, .inl u.1)), ((ad 84), .inl (y 2, 1111, .inl u.2))]) (b1 := fun u => mwd y ad zw (tI (tI (sI σ 82 1) 83 u.1) 84 u.2)) [0, 56, 57] (va_runV (As := []) (rest := []) ⟨hx, hb, hml, hown, hts⟩ (m_worksAgain0 l D y H.size (ad 1) ad σ.1 σ.2.1 (σ.2.2.1 83) (σ.2.2.1 84)) (cwV 0 hts g_q_first_1 rfl rfl rfl (by decide +kernel) ⟨Nat.le_of_ble_eq_true rfl, Nat.le_of_ble_eq_true rfl⟩) (x_preV (q := (RX12, TX12, 85)) hK (x_suP hP [0, 56, 57] (wk_e1 hz)) (x_suD hD [0, 56, 57] (wk_e1 hz) (by decide)) (ci := 11) (q0 := 0) rfl rfl) rfl rfl hl.1 rfl (lv_room (Nat.le_of_ble_eq_true rfl)) dX12_first_27 ⟨Nat.le_of_ble_eq_true rfl, Nat.le_of_ble_eq_true rfl⟩) hP hD hS hA (wk_e1 hz) (fun u => wk_e2 y ad zw σ u) (fun _ => rfl) (fun _ => rfl) (fun u H locs hT hP hD hS => ?_)
        have hT : AW u.1 u.2 := hT
        refine lv_aload_n hx hb dX12_first_30 rfl (lv_at hl 0 rfl) ?_
        refine va_get (D := D) (ci := 11) (v := .ref (ad 84)) (C := RX12) (T := TX12) (N := 85) hx hb hts inX12 hown hK hP 0 mwd_o0 rfl 84 (by decide) fl185 (fun _ h9 => h9) rfl dX12_first_31 ?_
        refine lv_bipush (v := 11) hx hb dX12_first_34 (by decide) ?_
        refine lv_iload_n hx hb dX12_first_36 rfl (lv_at hl 1 rfl) ?_
        refine lv_imul hx hb dX12_first_37 ?_
        refine lv_topi (fun i_10 ei_10 => ?_)
        have vi_10 : i_10.toInt = 11 * n.toInt := by have h9 := x_mulIl (n := 11) ei_10 rfl (by omega) (by omega); omega
        refine lv_iload_n hx hb dX12_first_38 rfl (lv_at hl 2 rfl) ?_
        refine lv_iadd hx hb dX12_first_39 ?_
        refine lv_topi (fun i_11 ei_11 => ?_)
        have vi_11 : i_11.toInt = i_10.toInt + k.toInt := by have h9 := x_add ei_11 (by omega) (by omega); omega
        refine va_iald hx hb hK hP 57 2 mwd_a57 rfl (x_in (by omega) (by omega)) dX12_first_40 ?_
        refine lv_topi (fun i_12 ei_12 => ?_)
        have ei_12 : i_12 = u.2 (Int32.toNatClampNeg i_11) := ei_12
        have hfin : i_12 = gb n k := by
          rw [ei_12, show Int32.toNatClampNeg i_11 = 11 * n.toInt.toNat + k.toInt.toNat from (by show i_11.toInt.toNat = _; omega), hT.2 n.toInt.toNat k.toInt.toNat (by omega) (by omega) (by omega) (by omega)]
          unfold gx gb
          by_cases hc : k.toInt.toNat = 1 ∨ n.toInt.toNat = 1
          · rw [if_pos hc, if_neg (by omega)]
          · rw [if_neg hc, if_pos (by omega)]
        exact x_iretW (v := i_12) (u := ((1 : Int32), u.1, u.2)) hx hb hr hQ ⟨hfin, Or.inr hT⟩ hP hD hK hS dX12_first_41 hlocks
      · have hT : AW (σ.2.2.1 83) (σ.2.2.1 84) := hat.resolve_left hz
        refine x_callvW (va_runV (As := []) (rest := []) ⟨hx, hb, hml, hown, hts⟩ (q_worksAgain1 l D y H.size ad zw σ hz) (cwV 0 hts g_q_first_1 rfl rfl rfl (by decide +kernel) ⟨Nat.le_of_ble_eq_true rfl, Nat.le_of_ble_eq_true rfl⟩) (x_preV (q := (RX12, TX12, 85)) hK hP hD (ci := 11) (q0 := 0) rfl mwd_o0) rfl rfl hl.1 rfl (lv_room (Nat.le_of_ble_eq_true rfl)) dX12_first_27 ⟨Nat.le_of_ble_eq_true rfl, Nat.le_of_ble_eq_true rfl⟩) hP hD hS hA (fun u H locs hw hP hD hS => ?_)
        have hP : va_P D vwCl (mwd y ad zw (tI (tI (sI σ 82 (σ.1 82)) 83 (σ.2.2.1 83)) 84 (σ.2.2.1 84))) H := hP
        have hD : va_D A (mwd y ad zw (tI (tI (sI σ 82 (σ.1 82)) 83 (σ.2.2.1 83)) 84 (σ.2.2.1 84))) := hD
        refine lv_aload_n hx hb dX12_first_30 rfl (lv_at hl 0 rfl) ?_
        refine va_get (D := D) (ci := 11) (v := .ref (ad 84)) (C := RX12) (T := TX12) (N := 85) hx hb hts inX12 hown hK hP 0 mwd_o0 rfl 84 (by decide) fl185 (fun _ h9 => h9) rfl dX12_first_31 ?_
        refine lv_bipush (v := 11) hx hb dX12_first_34 (by decide) ?_
        refine lv_iload_n hx hb dX12_first_36 rfl (lv_at hl 1 rfl) ?_
        refine lv_imul hx hb dX12_first_37 ?_
        refine lv_topi (fun i_10 ei_10 => ?_)
        have vi_10 : i_10.toInt = 11 * n.toInt := by have h9 := x_mulIl (n := 11) ei_10 rfl (by omega) (by omega); omega
        refine lv_iload_n hx hb dX12_first_38 rfl (lv_at hl 2 rfl) ?_
        refine lv_iadd hx hb dX12_first_39 ?_
        refine lv_topi (fun i_11 ei_11 => ?_)
        have vi_11 : i_11.toInt = i_10.toInt + k.toInt := by have h9 := x_add ei_11 (by omega) (by omega); omega
        refine va_iald hx hb hK hP 57 2 mwd_a57 rfl (x_in (by omega) (by omega)) dX12_first_40 ?_
        refine lv_topi (fun i_12 ei_12 => ?_)
        have ei_12 : i_12 = (σ.2.2.1 84) (Int32.toNatClampNeg i_11) := ei_12
        have hfin : i_12 = gb n k := by
          rw [ei_12, show Int32.toNatClampNeg i_11 = 11 * n.toInt.toNat + k.toInt.toNat from (by show i_11.toInt.toNat = _; omega), hT.2 n.toInt.toNat k.toInt.toNat (by omega) (by omega) (by omega) (by omega)]
          unfold gx gb
          by_cases hc : k.toInt.toNat = 1 ∨ n.toInt.toNat = 1
          · rw [if_pos hc, if_neg (by omega)]
          · rw [if_neg hc, if_pos (by omega)]
        exact x_iretW (v := i_12) (u := ((σ.1 82), (σ.2.2.1 83), (σ.2.2.1 84))) hx hb hr hQ ⟨hfin, Or.inr hT⟩ hP hD hK hS dX12_first_41 hlocks
    · have kc_6 : r_5.toInt = 0 := by have h9 := c_6; simp only [ge_iff_le, gt_iff_lt, x_lt, x_le, x_eq, ne_eq, Int32.not_lt, Int32.not_le] at h9; simp only [Int32.reduceToInt] at h9; omega
      refine lv_iconst (v := (-1)) hx hb dX12_first_24 (by decide) ?_
      have hP : va_P D vwCl (mwd y ad zw (tI (tI (sI σ 82 (σ.1 82)) 83 (σ.2.2.1 83)) 84 (σ.2.2.1 84))) H := hP
      have hD : va_D A (mwd y ad zw (tI (tI (sI σ 82 (σ.1 82)) 83 (σ.2.2.1 83)) 84 (σ.2.2.1 84))) := hD
      exact x_iretW (v := (-1)) (u := ((σ.1 82), (σ.2.2.1 83), (σ.2.2.1 84))) hx hb hr hQ ⟨(by show (-1 : Int32) = gb n k; unfold gb; rw [if_neg (by omega)]), hat⟩ hP hD hK hS dX12_first_25 hlocks
/-! What holds between the calls of the law, and how the loop begins. -/
/-- where the objects of a new class lie -/
def xJd (h0 : Nat) (u : Nat → Nat) (k : Nat) : Nat := List.getD [h0, 0, 0, 0, 0, 0, 0, 0, 0, 0, 0, 0, 0, 0, 0, 0, 0, 0, 0, 0, u 0, u 1, 0, 0, 0, 0, 0, 0, 0, 0, u 2, 0, 0, 0, 0, 0, 0, 0, 0, 0, u 3, u 4, u 5, u 6, u 7, 0, 0, 0, 0, 0, 0, 0, 0, 0, 0, 0, 0, 0, 0, 0, u 47, 0, 0, 0, 0, 0, 0, u 48, 0, u 49, u 50, u 51, u 52, u 53, 0, 0, 0, 0, 0, 0, u 40, 0, 0, 0, 0, 0, 0, u 41, 0, u 42, u 43, u 44, u 45, u 46, 0, 0, 0, 0, 0, 0, u 8, u 9, u 10, u 11, u 12, 0, 0, 0, 0, 0, u 13, u 14, u 15, 0, 0, 0, 0, 0, 0, 0, 0, 0, 0, 0, 0, 0, 0, 0, 0, 0, u 28, u 29, u 30, u 31, u 32, u 33, 0, 0, 0, 0, 0, 0, 0, 0, 0, 0, 0, 0, 0, 0, u 34, u 35, u 36, u 37, u 38, u 39, 0, 0, 0, 0, 0, 0, 0, 0, 0, 0, 0, 0, 0, 0, u 16, u 17, u 18, u 19, u 20, u 21, 0, 0, 0, 0, u 22, u 23, u 24, 0, 0, 0, 0, 0, 0, 0, u 25] k 0
/-- the state of a new class -/
def xJs (ow : Nat → Int64) : OS := (fun k => if k = 38 ∨ k = 136 ∨ k = 156 then -1 else 0, fun _ => 0, fun _ _ => 0, fun k => if k = 41 then ow else fun _ => 0)
/-- the class between two calls: its text is t long -/
def CX (y : Nat → ClassId) (h0 : Nat) (t : Int) (X : va_W) : Prop := ∃ (ad : Nat → Nat) (iv pv tv : Value) (o1 o2 : Nat) (r1 r2 : Nat → Nat) (fi : Int32) (F1 F2 : Nat → Nat → Int32) (σ : OS), X = xwd y ad iv pv tv (KL y (ad 190) o1 o2 r1 r2 fi F1 F2) σ ∧ ad 0 = h0 ∧ XI σ ∧ KI fi F1 F2 ∧ (σ.1 22).toInt = t
/-- the reference's state between two calls -/
def RI (σ : OS) : Prop := (0 ≤ (σ.1 1).toInt ∧ (σ.1 1).toInt ≤ 700) ∧ (0 ≤ (σ.1 47).toInt ∧ (σ.1 47).toInt ≤ (σ.1 48).toInt ∧ (σ.1 48).toInt ≤ 40) ∧ (0 ≤ (σ.1 79).toInt ∧ (σ.1 79).toInt ≤ 8) ∧ PG (σ.2.2.1 24) (σ.2.2.1 85) (σ.2.2.1 28) ∧ opc (σ.2.2.1 59) (σ.2.2.1 60) (σ.2.2.1 61) ∧ bI (σ.2.2.1 49) 0 7 ∧ bI (σ.2.2.1 62) 0 1760 ∧ bI (σ.2.2.1 63) 0 1000 ∧ bI (σ.2.2.1 25) 0 16 ∧ bI (σ.2.2.1 64) 0 12 ∧ bI (σ.2.2.1 65) 0 1759 ∧ bI (σ.2.2.1 26) 0 9999 ∧ bI (σ.2.2.1 35) 0 23 ∧ bI (σ.2.2.1 80) (-1) 9 ∧ bJ (σ.2.2.2 50) (-1000000000) 1000000000 ∧ bJ (σ.2.2.2 51) 0 1000000000 ∧ bJ (σ.2.2.2 52) (-1000000000) 1000000000 ∧ bJ (σ.2.2.2 53) 0 1000000000 ∧ bJ (σ.2.2.2 45) (-1000000000) 1000000000 ∧ bJ (σ.2.2.2 46) 0 1000000000 ∧ bJ (σ.2.2.2 55) (-1000000000) 1000000000 ∧ bJ (σ.2.2.2 56) 0 1000000000 ∧ bJ (σ.2.2.2 57) (-1000000000) 1000000000 ∧ bJ (σ.2.2.2 58) 0 1000000000 ∧ bJ (σ.2.2.2 75) (-1000000000) 1000000000 ∧ bJ (σ.2.2.2 76) 0 1000000000
def RX (y : Nat → ClassId) (h1 : Nat) (t : Int) (Y : va_W) : Prop := ∃ (ad : Nat → Nat) (zw : Nat → Nat → Int32) (σ : OS), Y = mwd y ad zw σ ∧ ad 1 = h1 ∧ RI σ ∧ AT (σ.1 82) (σ.2.2.1 83) (σ.2.2.1 84) ∧ (σ.1 1).toInt = t
theorem x_rng0 : ∀ X : va_W, (List.range X.length).map (fun i => X[i]?) = X.map some := fun X => by
  apply List.ext_getElem?
  intro i
  by_cases hi : i < X.length
  · simp [hi]
  · simp [hi]
theorem x_rng (X Y : va_W) : (List.range X.length).map (fun i => (X ++ Y)[i]?) = X.map some := by
  rw [← x_rng0 X]
  refine List.map_congr_left (fun i hi => ?_)
  exact List.getElem?_append_left (List.mem_range.mp hi)
theorem x_lP {D : va_G} {X Y : va_W} {H : Heap} (hP : va_P D vwCl (X ++ Y) H) : va_P D vwCl X H := fun k q hk => hP k q (x_apl hk)
theorem x_lD {A : Nat → Prop} {X Y : va_W} (hD : va_D A (X ++ Y)) : va_D A X := ⟨fun i j p q hp hq h => hD.1 i j p q (x_apl hp) (x_apl hq) h, fun k q hk => hD.2 k q (x_apl hk)⟩
theorem x_rP {D : va_G} {X Y : va_W} {H : Heap} (hP : va_P D vwCl (X ++ Y) H) : va_P D vwCl Y H := fun k q hk => hP _ q (x_apr hk)
theorem x_rD {A : Nat → Prop} {X Y : va_W} (hD : va_D A (X ++ Y)) : va_D A Y := ⟨fun i j p q hp hq h => by have h9 := hD.1 _ _ p q (x_apr (X := X) hp) (x_apr (X := X) hq) h; omega, fun k q hk => hD.2 _ q (x_apr (X := X) hk)⟩
theorem x_wP {D : va_G} {X Y : va_W} {H : Heap} (hP : va_P D vwCl (X ++ Y) H) : va_P D vwCl (Y ++ X) H := va_P.swap (a := []) (b := X) (c := Y) hP
theorem x_wD {A : Nat → Prop} {X Y : va_W} (hD : va_D A (X ++ Y)) : va_D A (Y ++ X) := va_D.swap (a := []) (b := X) (c := Y) hD
theorem x_ix {i k : Int32} {L : Nat} (hi0 : 0 ≤ i.toInt) (hi1 : i.toInt + 6 ≤ (L : Int)) (hL : L ≤ 3072) (hk0 : 0 ≤ k.toInt) (hk1 : k.toInt ≤ 5) : vp_in (i + k) L := by
  have e := x_add (x := i) (y := k) (z := i + k) rfl (by omega) (by omega)
  exact x_in (by omega) (by omega)
theorem x_sl {L : Nat} (h : L ≤ 3072) : (Int32.ofNat L - 6).toInt = (L : Int) - 6 := by
  have e0 : (Int32.ofNat L).toInt = (L : Int) := Int32.toInt_ofNat_of_lt (by omega)
  have e1 : (6 : Int32).toInt = 6 := rfl
  have e := x_sub (x := Int32.ofNat L) (y := 6) rfl (by omega) (by omega)
  omega
section LQ
variable {p : Program} {l : Launch} {e : Env} {R : Room} {s : State} {m : MethodId} {args : Array Value} {below : List Frame} {meth : Method} {c : Code} {H : Heap} {locs : List Loc} {cells slots : Nat} {Q : State → Prop}
variable {pc : Nat} {ls : Array Slot} {rest : List Value} {D : va_G} {A : Nat → Prop} {tys : List (ClassId × FieldType)} {H0 : Heap}
theorem x_calliA {S : Type} {post : Int32 → S → Prop} {w1 : S → va_W} {X pl : va_W} {mc ms : Nat} {st0 : List Value} {a : Array Value}
    (hr : va_Run p l e R s m args below meth c H locs cells slots mc ms (F0 m pc ls st0) rest (va_Qi post (fun u => xB D tys (va_A X H.size) (w1 u)) (va_A X H.size) a) (va_A X H.size))
    (hP : va_P D vwCl (X ++ pl) H) (hD : va_D A (X ++ pl)) (hS : va_S A H0 H locs) (hA : ∀ q, H0.size ≤ q → A q)
    (kk : ∀ (r : Int32) (u : S) (H1 : Heap) (locs1 : List Loc), post r u → va_P D vwCl (w1 u ++ pl) H1 → va_D A (w1 u ++ pl) → va_S A H0 H1 locs1 → W p l e R s m args below meth c H1 locs1 (cells + mc) (slots + ms) Q (F0 m (pc + 3) ls (.int r :: rest))) : W p l e R s m args below meth c H locs cells slots Q (F0 m pc ls st0) := by
  have hFc := va_free (wc := X) hD hS hA (List.range X.length) (x_rng X pl)
  refine va_calli hr hS (fun q _ h => hFc q h) hFc (fun r u t H1 locs1 ht hvm hw hB hz1 hk1 hS1 => ?_)
  obtain ⟨hP1, hK1, hD1⟩ := hB
  rw [ht] at hP1
  obtain ⟨hP2, hD2⟩ := va_joinQ (wr := []) (w1 := w1 u) hP hD (List.range X.length) [] (x_rng0 X) rfl rfl (fun i h => absurd h List.not_mem_nil) hk1 hFc hP1 hD1
  exact kk r u H1 locs1 hw hP2 hD2 hS1
theorem x_calliB {S : Type} {post : Int32 → S → Prop} {w1 : S → va_W} {X pl : va_W} {mc ms : Nat} {st0 : List Value} {a : Array Value}
    (hr : va_Run p l e R s m args below meth c H locs cells slots mc ms (F0 m pc ls st0) rest (va_Qi post (fun u => xB D tys (va_A X H.size) (w1 u)) (va_A X H.size) a) (va_A X H.size))
    (hP : va_P D vwCl (pl ++ X) H) (hD : va_D A (pl ++ X)) (hS : va_S A H0 H locs) (hA : ∀ q, H0.size ≤ q → A q)
    (kk : ∀ (r : Int32) (u : S) (H1 : Heap) (locs1 : List Loc), post r u → va_P D vwCl (pl ++ w1 u) H1 → va_D A (pl ++ w1 u) → va_S A H0 H1 locs1 → W p l e R s m args below meth c H1 locs1 (cells + mc) (slots + ms) Q (F0 m (pc + 3) ls (.int r :: rest))) : W p l e R s m args below meth c H locs cells slots Q (F0 m pc ls st0) :=
  x_calliA hr (x_wP hP) (x_wD hD) hS hA (fun r u H1 locs1 hw hP hD hS => kk r u H1 locs1 hw (x_wP hP) (x_wD hD) hS)
theorem x_calllA {S : Type} {post : Int64 → S → Prop} {w1 : S → va_W} {X pl : va_W} {mc ms : Nat} {st0 : List Value} {a : Array Value}
    (hr : va_Run p l e R s m args below meth c H locs cells slots mc ms (F0 m pc ls st0) rest (va_Ql post (fun u => xB D tys (va_A X H.size) (w1 u)) (va_A X H.size) a) (va_A X H.size))
    (hP : va_P D vwCl (X ++ pl) H) (hD : va_D A (X ++ pl)) (hS : va_S A H0 H locs) (hA : ∀ q, H0.size ≤ q → A q)
    (kk : ∀ (r : Int64) (u : S) (H1 : Heap) (locs1 : List Loc), post r u → va_P D vwCl (w1 u ++ pl) H1 → va_D A (w1 u ++ pl) → va_S A H0 H1 locs1 → W p l e R s m args below meth c H1 locs1 (cells + mc) (slots + ms) Q (F0 m (pc + 3) ls (.long r :: rest))) : W p l e R s m args below meth c H locs cells slots Q (F0 m pc ls st0) := by
  have hFc := va_free (wc := X) hD hS hA (List.range X.length) (x_rng X pl)
  refine va_calll hr hS (fun q _ h => hFc q h) hFc (fun r u t H1 locs1 ht hvm hw hB hz1 hk1 hS1 => ?_)
  obtain ⟨hP1, hK1, hD1⟩ := hB
  rw [ht] at hP1
  obtain ⟨hP2, hD2⟩ := va_joinQ (wr := []) (w1 := w1 u) hP hD (List.range X.length) [] (x_rng0 X) rfl rfl (fun i h => absurd h List.not_mem_nil) hk1 hFc hP1 hD1
  exact kk r u H1 locs1 hw hP2 hD2 hS1
theorem x_calllB {S : Type} {post : Int64 → S → Prop} {w1 : S → va_W} {X pl : va_W} {mc ms : Nat} {st0 : List Value} {a : Array Value}
    (hr : va_Run p l e R s m args below meth c H locs cells slots mc ms (F0 m pc ls st0) rest (va_Ql post (fun u => xB D tys (va_A X H.size) (w1 u)) (va_A X H.size) a) (va_A X H.size))
    (hP : va_P D vwCl (pl ++ X) H) (hD : va_D A (pl ++ X)) (hS : va_S A H0 H locs) (hA : ∀ q, H0.size ≤ q → A q)
    (kk : ∀ (r : Int64) (u : S) (H1 : Heap) (locs1 : List Loc), post r u → va_P D vwCl (pl ++ w1 u) H1 → va_D A (pl ++ w1 u) → va_S A H0 H1 locs1 → W p l e R s m args below meth c H1 locs1 (cells + mc) (slots + ms) Q (F0 m (pc + 3) ls (.long r :: rest))) : W p l e R s m args below meth c H locs cells slots Q (F0 m pc ls st0) :=
  x_calllA hr (x_wP hP) (x_wD hD) hS hA (fun r u H1 locs1 hw hP hD hS => kk r u H1 locs1 hw (x_wP hP) (x_wD hD) hS)
end LQ
theorem xwv_tail (y : Nat → ClassId) (ad : Nat → Nat) (iv pv tv : Value) (kt Y : va_W) (cu sp : Value) (σ : OS) : xwv y ad iv pv tv kt cu sp σ ++ Y = xwv y ad iv pv tv (kt ++ Y) cu sp σ := by
  unfold xwv
  exact List.append_assoc _ _ _
theorem xwd_tail (y : Nat → ClassId) (ad : Nat → Nat) (iv pv tv : Value) (kt Y : va_W) (σ : OS) : xwd y ad iv pv tv kt σ ++ Y = xwd y ad iv pv tv (kt ++ Y) σ := by
  unfold xwd
  exact List.append_assoc _ _ _
set_option maxHeartbeats 4000000 in
set_option maxRecDepth 100000 in
theorem x_xWi (y : Nat → ClassId) (h0 : Nat) (u : (Nat → Nat) × (Nat → Nat) × (Nat → Nat) × (Nat → Int64)) : ([0, 75, 69, 70, 1, 8, 64, 61, 21, 15, 55, 52, 76, 71, 72, 73, 74, 2, 3, 4, 5, 6, 7, 9, 10, 11, 12, 13, 14, 65, 66, 67, 68, 62, 63, 22, 23, 24, 25, 26, 16, 17, 18, 19, 20, 56, 57, 58, 59, 60, 53, 54, 27, 28, 29, 30, 31, 32, 33, 34, 35, 36, 37, 38, 39, 40, 41, 42, 43, 44, 45, 46, 47, 48, 49, 50, 51] : List Nat).map (fun i => (xW y h0 u)[i]?) = (xwd y (xJd h0 u.1) .null .null .null (KL y (xJd h0 u.1 190) (u.1 26) (u.1 27) u.2.1 u.2.2.1 0 (fun _ _ => 0) (fun _ _ => 0)) (xJs u.2.2.2)).map some := rfl
theorem x_XI0 (ow : Nat → Int64) : XI (xJs ow) := by
  refine ⟨?_, ?_, ?_, ?_, ?_, ?_, ?_, ?_, ?_, ?_, ?_, ?_, ?_, ?_, ?_, ?_, ?_, ?_, ?_, ?_, ?_, ?_, ?_, ?_, fun i => ?_, fun i => ?_, fun i => ?_, fun i => ?_, fun i => ?_, fun i => ?_, fun i => ?_⟩ <;> first | exact (by decide : (0 : Int) ≤ (0 : Int32).toInt) | exact (by decide : (0 : Int32).toInt ≤ 700) | exact (by decide : (0 : Int32).toInt ≤ 8) | exact (by decide : (0 : Int32).toInt ≤ 4) | exact (by decide : (0 : Int32).toInt ≤ 350) | exact (by decide : (0 : Int32).toInt ≤ 1359) | exact (by decide : (0 : Int32).toInt ≤ 12) | exact (by decide : (0 : Int32).toInt ≤ 40) | exact (by decide : (0 : Int32).toInt ≤ (0 : Int32).toInt) | exact (by decide : (0 : Int) ≤ (0 : Int32).toInt ∧ (0 : Int32).toInt ≤ 7) | exact (by decide : (0 : Int) ≤ (0 : Int32).toInt ∧ (0 : Int32).toInt ≤ 1358)
theorem x_CX0 (y : Nat → ClassId) (h0 : Nat) (u : (Nat → Nat) × (Nat → Nat) × (Nat → Nat) × (Nat → Int64)) : CX y h0 0 (xwd y (xJd h0 u.1) .null .null .null (KL y (xJd h0 u.1 190) (u.1 26) (u.1 27) u.2.1 u.2.2.1 0 (fun _ _ => 0) (fun _ _ => 0)) (xJs u.2.2.2)) := ⟨_, _, _, _, _, _, _, _, _, _, _, _, rfl, rfl, x_XI0 _, Or.inl ⟨rfl, fun _ _ _ => rfl⟩, rfl⟩
def mJd (h1 : Nat) (u : Nat → Nat) (k : Nat) : Nat := if k = 1 then h1 else u k
def mJs (ub : Nat → Int64) : OS := (xI0, xJ0, fun _ _ => 0, fun k => if k = 46 then ub else fun _ => 0)
/-- the cells of a new reference, in the order of the loop's world -/
def mJw (y : Nat → ClassId) (h1 : Nat) (u : (Nat → Nat) × (Nat → Nat → Int32) × (Nat → Int64)) (c0 : Nat → Int32) : va_W := [(h1, .inr (11, mF u.1 xI0 xJ0)), (u.1 0, .inl (y 2, 700, .inl (fun _ => 0))), (u.1 9, .inl (y 1, 5, .inl (u.2.1 9))), (u.1 10, .inl (y 1, 3, .inl (u.2.1 10))), (u.1 11, .inl (y 1, 3, .inl (u.2.1 11))), (u.1 12, .inl (y 1, 3, .inl (u.2.1 12))), (u.1 13, .inl (y 1, 4, .inl (u.2.1 13))), (u.1 14, .inl (y 1, 2, .inl (u.2.1 14))), (u.1 15, .inl (y 1, 4, .inl (u.2.1 15))), (u.1 16, .inl (y 1, 5, .inl (u.2.1 16))), (u.1 17, .inl (y 1, 3, .inl (u.2.1 17))), (u.1 18, .inl (y 1, 2, .inl (u.2.1 18))), (u.1 19, .inl (y 1, 3, .inl (u.2.1 19))), (u.1 20, .inl (y 1, 3, .inl (u.2.1 20))), (u.1 21, .inl (y 1, 3, .inl (u.2.1 21))), (u.1 22, .inl (y 1, 3, .inl (u.2.1 22))), (u.1 24, .inl (y 2, 10, .inl (fun _ => 0))), (u.1 25, .inl (y 2, 8, .inl (fun _ => 0))), (u.1 26, .inl (y 2, 1400, .inl (fun _ => 0))), (u.1 27, .inl (y 2, 2400, .inl c0)), (u.1 28, .inl (y 2, 2, .inl (fun _ => 0))), (u.1 30, .inl (y 2, 800, .inl (fun _ => 0))), (u.1 34, .inl (y 3, 24, .inr (.inl (fun _ => 0)))), (u.1 35, .inl (y 2, 24, .inl (fun _ => 0))), (u.1 36, .inl (y 2, 8, .inl (fun _ => 0))), (u.1 37, .inl (y 2, 8, .inl (fun _ => 0))), (u.1 38, .inl (y 2, 8, .inl (fun _ => 0))), (u.1 41, .inl (y 2, 700, .inl (fun _ => 0))), (u.1 45, .inl (y 3, 8, .inr (.inl (fun _ => 0)))), (u.1 46, .inl (y 3, 8, .inr (.inl u.2.2))), (u.1 49, .inl (y 2, 41, .inl (fun _ => 0))), (u.1 50, .inl (y 3, 41, .inr (.inl (fun _ => 0)))), (u.1 51, .inl (y 3, 41, .inr (.inl (fun _ => 0)))), (u.1 52, .inl (y 3, 41, .inr (.inl (fun _ => 0)))), (u.1 53, .inl (y 3, 41, .inr (.inl (fun _ => 0)))), (u.1 55, .inl (y 3, 16, .inr (.inl (fun _ => 0)))), (u.1 56, .inl (y 3, 16, .inr (.inl (fun _ => 0)))), (u.1 57, .inl (y 3, 3520, .inr (.inl (fun _ => 0)))), (u.1 58, .inl (y 3, 3520, .inr (.inl (fun _ => 0)))), (u.1 59, .inl (y 2, 3520, .inl (fun _ => 0))), (u.1 60, .inl (y 2, 3520, .inl (fun _ => 0))), (u.1 61, .inl (y 2, 3520, .inl (fun _ => 0))), (u.1 62, .inl (y 2, 2, .inl (fun _ => 0))), (u.1 63, .inl (y 2, 2, .inl (fun _ => 0))), (u.1 64, .inl (y 2, 2, .inl (fun _ => 0))), (u.1 65, .inl (y 2, 24, .inl (fun _ => 0))), (u.1 66, .inl (y 2, 2, .inl (fun _ => 0))), (u.1 67, .inl (y 2, 2, .inl (fun _ => 0))), (u.1 71, .inl (y 2, 84, .inl (fun _ => 0))), (u.1 72, .inl (y 2, 800, .inl (fun _ => 0))), (u.1 74, .inl (y 4, 1760, .inl (fun _ => 0))), (u.1 75, .inl (y 3, 5280, .inr (.inl (fun _ => 0)))), (u.1 76, .inl (y 3, 5280, .inr (.inl (fun _ => 0)))), (u.1 77, .inl (y 3, 1760, .inr (.inl (fun _ => 0)))), (u.1 80, .inl (y 2, 8, .inl (fun _ => 0))), (u.1 81, .inl (y 2, 8, .inl (fun _ => 0))), (u.1 83, .inl (y 2, 1111, .inl (fun _ => 0))), (u.1 84, .inl (y 2, 1111, .inl (fun _ => 0)))]
set_option maxHeartbeats 4000000 in
set_option maxRecDepth 100000 in
theorem m_mWi (y : Nat → ClassId) (h1 : Nat) (u : (Nat → Nat) × (Nat → Nat → Int32) × (Nat → Int64)) : ([0, 57, 56, 55, 54, 53, 52, 51, 50, 49, 48, 47, 46, 45, 44, 43, 42, 41, 40, 39, 38, 37, 36, 35, 34, 33, 32, 31, 30, 29, 28, 27, 26, 25, 24, 23, 22, 21, 20, 19, 18, 17, 16, 15, 14, 13, 12, 11, 10, 9, 8, 7, 6, 5, 4, 3, 2, 1] : List Nat).map (fun i => (mW y h1 u)[i]?) = (mJw y h1 u (fun _ => 0)).map some := rfl
theorem cj_0 : cj (fun _ => 0) (fun _ => 0) = (fun _ => 0) := by
  funext k
  unfold cj
  split <;> rfl
set_option maxHeartbeats 4000000 in
set_option maxRecDepth 100000 in
theorem m_mJw (y : Nat → ClassId) (h1 : Nat) (u : (Nat → Nat) × (Nat → Nat → Int32) × (Nat → Int64)) : mJw y h1 u (fun _ => 0) = mwd y (mJd h1 u.1) u.2.1 (mJs u.2.2) := by
  rw [← cj_0]
  rfl
theorem b_0 (lo hi : Int) (h0 : lo ≤ 0) (h1 : 0 ≤ hi) : bI (fun _ => 0) lo hi := fun _ => ⟨h0, h1⟩
theorem bj_0 (lo hi : Int) (h0 : lo ≤ 0) (h1 : 0 ≤ hi) : bJ (fun _ => 0) lo hi := fun _ => ⟨h0, h1⟩
theorem m_PG0 : PG (fun _ => 0) (fun _ => 0) (fun _ => 0) := by
  refine ⟨by decide, by decide, by decide, by decide, 0, fun i => if i = 0 then some ([], true) else none, rfl, by decide, ⟨true, rfl⟩, fun i T b h => ?_, fun i T b h => absurd h (Nat.not_lt_zero i)⟩
  have h : (if i = 0 then some ([], true) else none) = some (T, b) := h
  by_cases hi : i = 0
  · rw [if_pos hi] at h
    cases h
    exact ⟨Nat.zero_le _, Nat.le_of_eq hi⟩
  · rw [if_neg hi] at h
    cases h
theorem m_RI0 (ub : Nat → Int64) (hub : bJ ub 0 1000000000) : RI (mJs ub) :=
  ⟨⟨(by decide : (0 : Int) ≤ (0 : Int32).toInt), (by decide : (0 : Int32).toInt ≤ 700)⟩, ⟨(by decide : (0 : Int) ≤ (0 : Int32).toInt), (by decide : (0 : Int32).toInt ≤ (0 : Int32).toInt), (by decide : (0 : Int32).toInt ≤ 40)⟩, ⟨(by decide : (0 : Int) ≤ (0 : Int32).toInt), (by decide : (0 : Int32).toInt ≤ 8)⟩, m_PG0, fun _ h => absurd rfl h, b_0 _ _ (by decide) (by decide), b_0 _ _ (by decide) (by decide), b_0 _ _ (by decide) (by decide), b_0 _ _ (by decide) (by decide), b_0 _ _ (by decide) (by decide), b_0 _ _ (by decide) (by decide), b_0 _ _ (by decide) (by decide), b_0 _ _ (by decide) (by decide), b_0 _ _ (by decide) (by decide), bj_0 _ _ (by decide) (by decide), bj_0 _ _ (by decide) (by decide), bj_0 _ _ (by decide) (by decide), bj_0 _ _ (by decide) (by decide), bj_0 _ _ (by decide) (by decide), hub, bj_0 _ _ (by decide) (by decide), bj_0 _ _ (by decide) (by decide), bj_0 _ _ (by decide) (by decide), bj_0 _ _ (by decide) (by decide), bj_0 _ _ (by decide) (by decide), bj_0 _ _ (by decide) (by decide)⟩
theorem m_RX0 (y : Nat → ClassId) (h1 : Nat) (u : (Nat → Nat) × (Nat → Nat → Int32) × (Nat → Int64)) (hub : bJ u.2.2 0 1000000000) : RX y h1 0 (mwd y (mJd h1 u.1) u.2.1 (mJs u.2.2)) := ⟨_, _, _, rfl, rfl, m_RI0 _ hub, Or.inl rfl, rfl⟩
theorem law_join {D : va_G} {A : Nat → Prop} {y : Nat → ClassId} {H : Heap} {h0 h1 : Nat} {um : (Nat → Nat) × (Nat → Nat → Int32) × (Nat → Int64)} {u : (Nat → Nat) × (Nat → Nat) × (Nat → Nat) × (Nat → Int64)} (hP : va_P D vwCl (mW y h1 um ++ xW y h0 u) H) (hD : va_D A (mW y h1 um ++ xW y h0 u)) (hub : bJ um.2.2 0 1000000000) : ∃ X Y : va_W, CX y h0 0 X ∧ RX y h1 0 Y ∧ va_P D vwCl (X ++ Y) H ∧ va_D A (X ++ Y) := by
  have hP1 := x_mapP _ (m_mWi y h1 um) hP
  have hD1 := x_mapD _ (m_mWi y h1 um) (by decide) hD
  rw [m_mJw] at hP1 hD1
  have hP2 := x_mapP _ (x_xWi y h0 u) (x_wP hP1)
  have hD2 := x_mapD _ (x_xWi y h0 u) (by decide) (x_wD hD1)
  exact ⟨_, _, x_CX0 y h0 u, m_RX0 y h1 um hub, hP2, hD2⟩
