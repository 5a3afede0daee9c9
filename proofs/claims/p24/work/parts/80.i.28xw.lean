theorem x_ap {a l m : va_W} (h : l = m) : a ++ l = a ++ m := by rw [h]
theorem x_oc2 {a b n : Nat} {f g : List Value} (e : a = b) (h : f = g) : ((a, .inr (n, f)) : Nat × va_E) = (b, .inr (n, g)) := by rw [e, h]
theorem x_cG {c : ClassId} {N q r : Nat} {f g : Nat → Option Nat} (h : q = r) (h2 : f = g) : ((q, .inl (c, N, .inr (.inr (.inr (.inr f))))) : Nat × va_E) = (r, .inl (c, N, .inr (.inr (.inr (.inr g))))) := by rw [h, h2]
theorem x_callvQ {p : Program} {l : Launch} {e : Env} {R : Room} {s : State} {m : MethodId} {args : Array Value} {below : List Frame} {meth : Method} {c : Code} {H : Heap} {locs : List Loc} {cells slots : Nat} {Q : State → Prop} {pc : Nat} {ls : Array Slot} {rest : List Value} {D : va_G} {A : Nat → Prop} {tys : List (ClassId × FieldType)} {H0 : Heap} {S : Type} {post : S → Prop} {w1 : S → va_W} {X cx wr pl : va_W} {mc ms : Nat} {st0 : List Value} {a : Array Value}
    (hr : va_Run p l e R s m args below meth c H locs cells slots mc ms (F0 m pc ls st0) rest (va_Qv post (fun u => xB D tys (va_A cx H.size) (w1 u)) (va_A cx H.size) a) (va_A cx H.size))
    (hP : va_P D vwCl (X ++ pl) H) (hD : va_D A (X ++ pl)) (hS : va_S A H0 H locs) (hA : ∀ q, H0.size ≤ q → A q) (isC isR : List Nat) (hC0 : isC.map (fun i => (X ++ pl)[i]?) = cx.map some) (hC : isC.map (fun i => X[i]?) = cx.map some) (hR : isR.map (fun i => X[i]?) = wr.map some) (hn : va_nd isR = true) (hdis : ∀ i ∈ isR, i ∉ isC)
    (kk : ∀ (u : S) (H1 : Heap) (locs1 : List Loc), post u → va_P D vwCl ((wr ++ w1 u) ++ pl) H1 → va_D A ((wr ++ w1 u) ++ pl) → va_S A H0 H1 locs1 → W p l e R s m args below meth c H1 locs1 (cells + mc) (slots + ms) Q (F0 m (pc + 3) ls rest)) : W p l e R s m args below meth c H locs cells slots Q (F0 m pc ls st0) := by
  have hFc := va_free (wc := cx) hD hS hA isC hC0
  refine va_callv hr hS (fun q _ h => hFc q h) hFc (fun u t H1 locs1 ht hvm hw hB hz1 hk1 hS1 => ?_)
  obtain ⟨hP1, hK1, hD1⟩ := hB
  rw [ht] at hP1
  obtain ⟨hP2, hD2⟩ := va_joinQ (wr := wr) (w1 := w1 u) hP hD isC isR hC hR hn hdis hk1 hFc hP1 hD1
  exact kk u H1 locs1 hw hP2 hD2 hS1

/-- the cells of a new object of the class -/
def xW (y : Nat → ClassId) (h0 : Nat) (u : (Nat → Nat) × (Nat → Nat) × (Nat → Nat) × (Nat → Int64)) : va_W := ([(h0, .inr (10, [.ref (u.1 0), .ref (u.1 2), .ref (u.1 8), .ref (u.1 13), .ref (u.1 16), .ref (u.1 22), .ref (u.1 25), .ref (u.1 28), .ref (u.1 34), .ref (u.1 40), .ref (u.1 47)])), ((u.1 47), .inr (5, [.int 0, .int 0, .int 0, .int 0, .int 0, .int 0, .ref (u.1 48), .int 0, .ref (u.1 49), .ref (u.1 50), .ref (u.1 51), .ref (u.1 52), .ref (u.1 53)])), ((u.1 48), .inl (y 2, 4, .inl (fun _ => 0))), ((u.1 49), .inl (y 3, 24, .inr (.inl (fun _ => 0)))), ((u.1 50), .inl (y 2, 24, .inl (fun _ => 0))), ((u.1 51), .inl (y 2, 350, .inl (fun _ => 0))), ((u.1 52), .inl (y 2, 700, .inl (fun _ => 0))), ((u.1 53), .inl (y 2, 700, .inl (fun _ => 0))), ((u.1 40), .inr (5, [.int 0, .int 0, .int 0, .int 0, .int 0, .int 0, .ref (u.1 41), .int 0, .ref (u.1 42), .ref (u.1 43), .ref (u.1 44), .ref (u.1 45), .ref (u.1 46)])), ((u.1 41), .inl (y 2, 4, .inl (fun _ => 0))), ((u.1 42), .inl (y 3, 24, .inr (.inl (fun _ => 0)))), ((u.1 43), .inl (y 2, 24, .inl (fun _ => 0))), ((u.1 44), .inl (y 2, 350, .inl (fun _ => 0))), ((u.1 45), .inl (y 2, 700, .inl (fun _ => 0))), ((u.1 46), .inl (y 2, 700, .inl (fun _ => 0))), ((u.1 34), .inr (7, [.ref (u.1 35), .ref (u.1 36), .ref (u.1 37), .ref (u.1 38), .ref (u.1 39), .int (-1), .int 0, .int 0, .int 0, .int 0, .int 0, .int 0, .long 0])), ((u.1 35), .inl (y 3, 1359, .inr (.inl (fun _ => 0)))), ((u.1 36), .inl (y 2, 1359, .inl (fun _ => 0))), ((u.1 37), .inl (y 2, 1359, .inl (fun _ => 0))), ((u.1 38), .inl (y 2, 1359, .inl (fun _ => 0))), ((u.1 39), .inl (y 2, 12, .inl (fun _ => 0))), ((u.1 28), .inr (7, [.ref (u.1 29), .ref (u.1 30), .ref (u.1 31), .ref (u.1 32), .ref (u.1 33), .int (-1), .int 0, .int 0, .int 0, .int 0, .int 0, .int 0, .long 0])), ((u.1 29), .inl (y 3, 1359, .inr (.inl (fun _ => 0)))), ((u.1 30), .inl (y 2, 1359, .inl (fun _ => 0))), ((u.1 31), .inl (y 2, 1359, .inl (fun _ => 0))), ((u.1 32), .inl (y 2, 1359, .inl (fun _ => 0))), ((u.1 33), .inl (y 2, 12, .inl (fun _ => 0))), ((u.1 25), .inr (2, [.ref (u.1 26), .ref (u.1 27), .int 0])), ((u.1 26), .inl (y 5, 11, .inr (.inr (.inr (.inr (xG u.2.1)))))), ((u.1 27), .inl (y 5, 11, .inr (.inr (.inr (.inr (xG u.2.2.1))))))] ++ (xR y u.2.1 (fun _ _ => 0) ++ (xR y u.2.2.1 (fun _ _ => 0) ++ [((u.1 22), .inr (0, [.ref (u.1 23), .ref (u.1 24), .int 0])), ((u.1 23), .inl (y 2, 8, .inl (fun _ => 0))), ((u.1 24), .inl (y 2, 8, .inl (fun _ => 0))), ((u.1 16), .inr (6, [.ref (u.1 17), .ref (u.1 18), .ref (u.1 19), .ref (u.1 20), .ref (u.1 21)])), ((u.1 17), .inl (y 3, 1359, .inr (.inl (fun _ => 0)))), ((u.1 18), .inl (y 3, 1359, .inr (.inl (fun _ => 0)))), ((u.1 19), .inl (y 3, 1359, .inr (.inl (fun _ => 0)))), ((u.1 20), .inl (y 2, 1359, .inl (fun _ => 0))), ((u.1 21), .inl (y 4, 1359, .inl (fun _ => 0))), ((u.1 13), .inr (3, [.ref (u.1 14), .ref (u.1 15), .null, .null, .int 0, .int 0])), ((u.1 14), .inl (y 2, 64, .inl (fun _ => 0))), ((u.1 15), .inl (y 2, 84, .inl (fun _ => 0))), ((u.1 8), .inr (1, [.ref (u.1 9), .ref (u.1 10), .ref (u.1 11), .ref (u.1 12), .int 0, .int 0, .int 0])), ((u.1 9), .inl (y 3, 8, .inr (.inl (fun _ => 0)))), ((u.1 10), .inl (y 2, 40, .inl (fun _ => 0))), ((u.1 11), .inl (y 3, 40, .inr (.inl (fun _ => 0)))), ((u.1 12), .inl (y 3, 40, .inr (.inl (fun _ => 0)))), ((u.1 2), .inr (4, [.ref (u.1 3), .null, .int 0, .int 0, .int 0, .int 0, .int 0, .int (-1)])), ((u.1 3), .inr (9, [.ref (u.1 4), .ref (u.1 5), .ref (u.1 6), .ref (u.1 7), .int 0, .int 0])), ((u.1 4), .inl (y 3, 14, .inr (.inl u.2.2.2))), ((u.1 5), .inl (y 2, 700, .inl (fun _ => 0))), ((u.1 6), .inl (y 2, 700, .inl (fun _ => 0))), ((u.1 7), .inl (y 3, 700, .inr (.inl (fun _ => 0)))), ((u.1 0), .inr (8, [.ref (u.1 1), .int 0])), ((u.1 1), .inl (y 0, 700, .inl (fun _ => 0)))])))
set_option maxHeartbeats 4000000 in
set_option maxRecDepth 100000 in
theorem c_init_w (D : va_G) (A : Nat → Prop) (H : Heap) (y : Nat → ClassId) (h0 : Nat) (q_1 : Nat) (q_2 : Nat) (q_3 : Nat) (q_4 : Nat) (q_5 : Nat) (q_6 : Nat) (q_7 : Nat) (q_8 : Nat) (f_9 : Nat → Int64) (q_10 : Nat) (q_11 : Nat) (q_12 : Nat) (q_13 : Nat) (q_14 : Nat) (q_15 : Nat) (q_16 : Nat) (q_17 : Nat) (q_18 : Nat) (q_19 : Nat) (q_20 : Nat) (q_21 : Nat) (q_22 : Nat) (q_23 : Nat) (q_24 : Nat) (q_25 : Nat) (q_26 : Nat) (q_27 : Nat) (o_28 : Nat) (o_29 : Nat) (r_30 : Nat → Nat) (r_31 : Nat → Nat) (q_32 : Nat) (q_33 : Nat) (q_34 : Nat) (q_35 : Nat) (q_36 : Nat) (q_37 : Nat) (q_38 : Nat) (q_39 : Nat) (q_40 : Nat) (q_41 : Nat) (q_42 : Nat) (q_43 : Nat) (q_44 : Nat) (q_45 : Nat) (q_46 : Nat) (q_47 : Nat) (q_48 : Nat) (q_49 : Nat) (q_50 : Nat) (q_51 : Nat) (q_52 : Nat) (q_53 : Nat) (q_54 : Nat) (q_55 : Nat) (q_56 : Nat) (q_57 : Nat) (hP : va_P D vwCl ((h0, .inr (10, [.ref q_1, .ref q_3, .ref q_10, .ref q_15, .ref q_18, .ref q_24, .ref q_27, .ref q_32, .ref q_38, .ref q_44, .ref q_51])) :: ([(q_51, .inr (5, [.int 0, .int 0, .int 0, .int 0, .int 0, .int 0, .ref q_52, .int 0, .ref q_53, .ref q_54, .ref q_55, .ref q_56, .ref q_57])), (q_52, .inl (y 2, 4, .inl (fun _ => 0))), (q_53, .inl (y 3, 24, .inr (.inl (fun _ => 0)))), (q_54, .inl (y 2, 24, .inl (fun _ => 0))), (q_55, .inl (y 2, 350, .inl (fun _ => 0))), (q_56, .inl (y 2, 700, .inl (fun _ => 0))), (q_57, .inl (y 2, 700, .inl (fun _ => 0)))] ++ ([(q_44, .inr (5, [.int 0, .int 0, .int 0, .int 0, .int 0, .int 0, .ref q_45, .int 0, .ref q_46, .ref q_47, .ref q_48, .ref q_49, .ref q_50])), (q_45, .inl (y 2, 4, .inl (fun _ => 0))), (q_46, .inl (y 3, 24, .inr (.inl (fun _ => 0)))), (q_47, .inl (y 2, 24, .inl (fun _ => 0))), (q_48, .inl (y 2, 350, .inl (fun _ => 0))), (q_49, .inl (y 2, 700, .inl (fun _ => 0))), (q_50, .inl (y 2, 700, .inl (fun _ => 0)))] ++ ([(q_38, .inr (7, [.ref q_39, .ref q_40, .ref q_41, .ref q_42, .ref q_43, .int (-1), .int 0, .int 0, .int 0, .int 0, .int 0, .int 0, .long 0])), (q_39, .inl (y 3, 1359, .inr (.inl (fun _ => 0)))), (q_40, .inl (y 2, 1359, .inl (fun _ => 0))), (q_41, .inl (y 2, 1359, .inl (fun _ => 0))), (q_42, .inl (y 2, 1359, .inl (fun _ => 0))), (q_43, .inl (y 2, 12, .inl (fun _ => 0)))] ++ ([(q_32, .inr (7, [.ref q_33, .ref q_34, .ref q_35, .ref q_36, .ref q_37, .int (-1), .int 0, .int 0, .int 0, .int 0, .int 0, .int 0, .long 0])), (q_33, .inl (y 3, 1359, .inr (.inl (fun _ => 0)))), (q_34, .inl (y 2, 1359, .inl (fun _ => 0))), (q_35, .inl (y 2, 1359, .inl (fun _ => 0))), (q_36, .inl (y 2, 1359, .inl (fun _ => 0))), (q_37, .inl (y 2, 12, .inl (fun _ => 0)))] ++ (([(q_27, .inr (2, [.ref o_28, .ref o_29, .int 0])), (o_28, .inl (y 5, 11, .inr (.inr (.inr (.inr (xG r_30)))))), (o_29, .inl (y 5, 11, .inr (.inr (.inr (.inr (xG r_31))))))] ++ (xR y r_30 (fun _ _ => 0) ++ xR y r_31 (fun _ _ => 0))) ++ ([(q_24, .inr (0, [.ref q_25, .ref q_26, .int 0])), (q_25, .inl (y 2, 8, .inl (fun _ => 0))), (q_26, .inl (y 2, 8, .inl (fun _ => 0)))] ++ ([(q_18, .inr (6, [.ref q_19, .ref q_20, .ref q_21, .ref q_22, .ref q_23])), (q_19, .inl (y 3, 1359, .inr (.inl (fun _ => 0)))), (q_20, .inl (y 3, 1359, .inr (.inl (fun _ => 0)))), (q_21, .inl (y 3, 1359, .inr (.inl (fun _ => 0)))), (q_22, .inl (y 2, 1359, .inl (fun _ => 0))), (q_23, .inl (y 4, 1359, .inl (fun _ => 0)))] ++ ([(q_15, .inr (3, [.ref q_16, .ref q_17, .null, .null, .int 0, .int 0])), (q_16, .inl (y 2, 64, .inl (fun _ => 0))), (q_17, .inl (y 2, 84, .inl (fun _ => 0)))] ++ ([(q_10, .inr (1, [.ref q_11, .ref q_12, .ref q_13, .ref q_14, .int 0, .int 0, .int 0])), (q_11, .inl (y 3, 8, .inr (.inl (fun _ => 0)))), (q_12, .inl (y 2, 40, .inl (fun _ => 0))), (q_13, .inl (y 3, 40, .inr (.inl (fun _ => 0)))), (q_14, .inl (y 3, 40, .inr (.inl (fun _ => 0))))] ++ ([(q_3, .inr (4, [.ref q_4, .null, .int 0, .int 0, .int 0, .int 0, .int 0, .int (-1)])), (q_4, .inr (9, [.ref q_5, .ref q_6, .ref q_7, .ref q_8, .int 0, .int 0])), (q_5, .inl (y 3, 14, .inr (.inl f_9))), (q_6, .inl (y 2, 700, .inl (fun _ => 0))), (q_7, .inl (y 2, 700, .inl (fun _ => 0))), (q_8, .inl (y 3, 700, .inr (.inl (fun _ => 0))))] ++ ([(q_1, .inr (8, [.ref q_2, .int 0])), (q_2, .inl (y 0, 700, .inl (fun _ => 0)))] ++ [])))))))))))) H) (hD : va_D A ((h0, .inr (10, [.ref q_1, .ref q_3, .ref q_10, .ref q_15, .ref q_18, .ref q_24, .ref q_27, .ref q_32, .ref q_38, .ref q_44, .ref q_51])) :: ([(q_51, .inr (5, [.int 0, .int 0, .int 0, .int 0, .int 0, .int 0, .ref q_52, .int 0, .ref q_53, .ref q_54, .ref q_55, .ref q_56, .ref q_57])), (q_52, .inl (y 2, 4, .inl (fun _ => 0))), (q_53, .inl (y 3, 24, .inr (.inl (fun _ => 0)))), (q_54, .inl (y 2, 24, .inl (fun _ => 0))), (q_55, .inl (y 2, 350, .inl (fun _ => 0))), (q_56, .inl (y 2, 700, .inl (fun _ => 0))), (q_57, .inl (y 2, 700, .inl (fun _ => 0)))] ++ ([(q_44, .inr (5, [.int 0, .int 0, .int 0, .int 0, .int 0, .int 0, .ref q_45, .int 0, .ref q_46, .ref q_47, .ref q_48, .ref q_49, .ref q_50])), (q_45, .inl (y 2, 4, .inl (fun _ => 0))), (q_46, .inl (y 3, 24, .inr (.inl (fun _ => 0)))), (q_47, .inl (y 2, 24, .inl (fun _ => 0))), (q_48, .inl (y 2, 350, .inl (fun _ => 0))), (q_49, .inl (y 2, 700, .inl (fun _ => 0))), (q_50, .inl (y 2, 700, .inl (fun _ => 0)))] ++ ([(q_38, .inr (7, [.ref q_39, .ref q_40, .ref q_41, .ref q_42, .ref q_43, .int (-1), .int 0, .int 0, .int 0, .int 0, .int 0, .int 0, .long 0])), (q_39, .inl (y 3, 1359, .inr (.inl (fun _ => 0)))), (q_40, .inl (y 2, 1359, .inl (fun _ => 0))), (q_41, .inl (y 2, 1359, .inl (fun _ => 0))), (q_42, .inl (y 2, 1359, .inl (fun _ => 0))), (q_43, .inl (y 2, 12, .inl (fun _ => 0)))] ++ ([(q_32, .inr (7, [.ref q_33, .ref q_34, .ref q_35, .ref q_36, .ref q_37, .int (-1), .int 0, .int 0, .int 0, .int 0, .int 0, .int 0, .long 0])), (q_33, .inl (y 3, 1359, .inr (.inl (fun _ => 0)))), (q_34, .inl (y 2, 1359, .inl (fun _ => 0))), (q_35, .inl (y 2, 1359, .inl (fun _ => 0))), (q_36, .inl (y 2, 1359, .inl (fun _ => 0))), (q_37, .inl (y 2, 12, .inl (fun _ => 0)))] ++ (([(q_27, .inr (2, [.ref o_28, .ref o_29, .int 0])), (o_28, .inl (y 5, 11, .inr (.inr (.inr (.inr (xG r_30)))))), (o_29, .inl (y 5, 11, .inr (.inr (.inr (.inr (xG r_31))))))] ++ (xR y r_30 (fun _ _ => 0) ++ xR y r_31 (fun _ _ => 0))) ++ ([(q_24, .inr (0, [.ref q_25, .ref q_26, .int 0])), (q_25, .inl (y 2, 8, .inl (fun _ => 0))), (q_26, .inl (y 2, 8, .inl (fun _ => 0)))] ++ ([(q_18, .inr (6, [.ref q_19, .ref q_20, .ref q_21, .ref q_22, .ref q_23])), (q_19, .inl (y 3, 1359, .inr (.inl (fun _ => 0)))), (q_20, .inl (y 3, 1359, .inr (.inl (fun _ => 0)))), (q_21, .inl (y 3, 1359, .inr (.inl (fun _ => 0)))), (q_22, .inl (y 2, 1359, .inl (fun _ => 0))), (q_23, .inl (y 4, 1359, .inl (fun _ => 0)))] ++ ([(q_15, .inr (3, [.ref q_16, .ref q_17, .null, .null, .int 0, .int 0])), (q_16, .inl (y 2, 64, .inl (fun _ => 0))), (q_17, .inl (y 2, 84, .inl (fun _ => 0)))] ++ ([(q_10, .inr (1, [.ref q_11, .ref q_12, .ref q_13, .ref q_14, .int 0, .int 0, .int 0])), (q_11, .inl (y 3, 8, .inr (.inl (fun _ => 0)))), (q_12, .inl (y 2, 40, .inl (fun _ => 0))), (q_13, .inl (y 3, 40, .inr (.inl (fun _ => 0)))), (q_14, .inl (y 3, 40, .inr (.inl (fun _ => 0))))] ++ ([(q_3, .inr (4, [.ref q_4, .null, .int 0, .int 0, .int 0, .int 0, .int 0, .int (-1)])), (q_4, .inr (9, [.ref q_5, .ref q_6, .ref q_7, .ref q_8, .int 0, .int 0])), (q_5, .inl (y 3, 14, .inr (.inl f_9))), (q_6, .inl (y 2, 700, .inl (fun _ => 0))), (q_7, .inl (y 2, 700, .inl (fun _ => 0))), (q_8, .inl (y 3, 700, .inr (.inl (fun _ => 0))))] ++ ([(q_1, .inr (8, [.ref q_2, .int 0])), (q_2, .inl (y 0, 700, .inl (fun _ => 0)))] ++ []))))))))))))) : ∃ u : (Nat → Nat) × (Nat → Nat) × (Nat → Nat) × (Nat → Int64), va_P D vwCl (xW y h0 u) H ∧ va_D A (xW y h0 u) := by
  obtain ⟨za, eza⟩ : ∃ z : Nat → Nat, z = (fun k => List.getD [q_1, q_2, q_3, q_4, q_5, q_6, q_7, q_8, q_10, q_11, q_12, q_13, q_14, q_15, q_16, q_17, q_18, q_19, q_20, q_21, q_22, q_23, q_24, q_25, q_26, q_27, o_28, o_29, q_32, q_33, q_34, q_35, q_36, q_37, q_38, q_39, q_40, q_41, q_42, q_43, q_44, q_45, q_46, q_47, q_48, q_49, q_50, q_51, q_52, q_53, q_54, q_55, q_56, q_57] k 0) := ⟨_, rfl⟩
  have za0 : q_1 = za 0 := by rw [eza]; rfl
  have za1 : q_2 = za 1 := by rw [eza]; rfl
  have za2 : q_3 = za 2 := by rw [eza]; rfl
  have za3 : q_4 = za 3 := by rw [eza]; rfl
  have za4 : q_5 = za 4 := by rw [eza]; rfl
  have za5 : q_6 = za 5 := by rw [eza]; rfl
  have za6 : q_7 = za 6 := by rw [eza]; rfl
  have za7 : q_8 = za 7 := by rw [eza]; rfl
  have za8 : q_10 = za 8 := by rw [eza]; rfl
  have za9 : q_11 = za 9 := by rw [eza]; rfl
  have za10 : q_12 = za 10 := by rw [eza]; rfl
  have za11 : q_13 = za 11 := by rw [eza]; rfl
  have za12 : q_14 = za 12 := by rw [eza]; rfl
  have za13 : q_15 = za 13 := by rw [eza]; rfl
  have za14 : q_16 = za 14 := by rw [eza]; rfl
  have za15 : q_17 = za 15 := by rw [eza]; rfl
  have za16 : q_18 = za 16 := by rw [eza]; rfl
  have za17 : q_19 = za 17 := by rw [eza]; rfl
  have za18 : q_20 = za 18 := by rw [eza]; rfl
  have za19 : q_21 = za 19 := by rw [eza]; rfl
  have za20 : q_22 = za 20 := by rw [eza]; rfl
  have za21 : q_23 = za 21 := by rw [eza]; rfl
  have za22 : q_24 = za 22 := by rw [eza]; rfl
  have za23 : q_25 = za 23 := by rw [eza]; rfl
  have za24 : q_26 = za 24 := by rw [eza]; rfl
  have za25 : q_27 = za 25 := by rw [eza]; rfl
  have za26 : o_28 = za 26 := by rw [eza]; rfl
  have za27 : o_29 = za 27 := by rw [eza]; rfl
  have za28 : q_32 = za 28 := by rw [eza]; rfl
  have za29 : q_33 = za 29 := by rw [eza]; rfl
  have za30 : q_34 = za 30 := by rw [eza]; rfl
  have za31 : q_35 = za 31 := by rw [eza]; rfl
  have za32 : q_36 = za 32 := by rw [eza]; rfl
  have za33 : q_37 = za 33 := by rw [eza]; rfl
  have za34 : q_38 = za 34 := by rw [eza]; rfl
  have za35 : q_39 = za 35 := by rw [eza]; rfl
  have za36 : q_40 = za 36 := by rw [eza]; rfl
  have za37 : q_41 = za 37 := by rw [eza]; rfl
  have za38 : q_42 = za 38 := by rw [eza]; rfl
  have za39 : q_43 = za 39 := by rw [eza]; rfl
  have za40 : q_44 = za 40 := by rw [eza]; rfl
  have za41 : q_45 = za 41 := by rw [eza]; rfl
  have za42 : q_46 = za 42 := by rw [eza]; rfl
  have za43 : q_47 = za 43 := by rw [eza]; rfl
  have za44 : q_48 = za 44 := by rw [eza]; rfl
  have za45 : q_49 = za 45 := by rw [eza]; rfl
  have za46 : q_50 = za 46 := by rw [eza]; rfl
  have za47 : q_51 = za 47 := by rw [eza]; rfl
  have za48 : q_52 = za 48 := by rw [eza]; rfl
  have za49 : q_53 = za 49 := by rw [eza]; rfl
  have za50 : q_54 = za 50 := by rw [eza]; rfl
  have za51 : q_55 = za 51 := by rw [eza]; rfl
  have za52 : q_56 = za 52 := by rw [eza]; rfl
  have za53 : q_57 = za 53 := by rw [eza]; rfl
  clear eza
  have ew57 : ([] : va_W) = [] := rfl
  have ew56 := x_co (show ((q_2, .inl (y 0, 700, .inl (fun _ => 0))) : Nat × va_E) = ((za 1), .inl (y 0, 700, .inl (fun _ => 0))) from x_cI za1 rfl) ew57
  have ef55_2 : ([] : List Value) = [] := rfl
  have ef55_1 := x_co (show (.int 0 : Value) = .int 0 from rfl) ef55_2
  have ef55_0 := x_co (show (.ref q_2 : Value) = .ref (za 1) from (x_rf za1)) ef55_1
  have ew55 := x_co (show ((q_1, .inr (8, [.ref q_2, .int 0])) : Nat × va_E) = ((za 0), .inr (8, [.ref (za 1), .int 0])) from x_oc2 za0 ef55_0) ew56
  have ew54 := x_co (show ((q_8, .inl (y 3, 700, .inr (.inl (fun _ => 0)))) : Nat × va_E) = ((za 7), .inl (y 3, 700, .inr (.inl (fun _ => 0)))) from x_cJ za7 rfl) ew55
  have ew53 := x_co (show ((q_7, .inl (y 2, 700, .inl (fun _ => 0))) : Nat × va_E) = ((za 6), .inl (y 2, 700, .inl (fun _ => 0))) from x_cI za6 rfl) ew54
  have ew52 := x_co (show ((q_6, .inl (y 2, 700, .inl (fun _ => 0))) : Nat × va_E) = ((za 5), .inl (y 2, 700, .inl (fun _ => 0))) from x_cI za5 rfl) ew53
  have ew51 := x_co (show ((q_5, .inl (y 3, 14, .inr (.inl f_9))) : Nat × va_E) = ((za 4), .inl (y 3, 14, .inr (.inl f_9))) from x_cJ za4 rfl) ew52
  have ef50_6 : ([] : List Value) = [] := rfl
  have ef50_5 := x_co (show (.int 0 : Value) = .int 0 from rfl) ef50_6
  have ef50_4 := x_co (show (.int 0 : Value) = .int 0 from rfl) ef50_5
  have ef50_3 := x_co (show (.ref q_8 : Value) = .ref (za 7) from (x_rf za7)) ef50_4
  have ef50_2 := x_co (show (.ref q_7 : Value) = .ref (za 6) from (x_rf za6)) ef50_3
  have ef50_1 := x_co (show (.ref q_6 : Value) = .ref (za 5) from (x_rf za5)) ef50_2
  have ef50_0 := x_co (show (.ref q_5 : Value) = .ref (za 4) from (x_rf za4)) ef50_1
  have ew50 := x_co (show ((q_4, .inr (9, [.ref q_5, .ref q_6, .ref q_7, .ref q_8, .int 0, .int 0])) : Nat × va_E) = ((za 3), .inr (9, [.ref (za 4), .ref (za 5), .ref (za 6), .ref (za 7), .int 0, .int 0])) from x_oc2 za3 ef50_0) ew51
  have ef49_8 : ([] : List Value) = [] := rfl
  have ef49_7 := x_co (show (.int (-1) : Value) = .int (-1) from rfl) ef49_8
  have ef49_6 := x_co (show (.int 0 : Value) = .int 0 from rfl) ef49_7
  have ef49_5 := x_co (show (.int 0 : Value) = .int 0 from rfl) ef49_6
  have ef49_4 := x_co (show (.int 0 : Value) = .int 0 from rfl) ef49_5
  have ef49_3 := x_co (show (.int 0 : Value) = .int 0 from rfl) ef49_4
  have ef49_2 := x_co (show (.int 0 : Value) = .int 0 from rfl) ef49_3
  have ef49_1 := x_co (show (.null : Value) = .null from rfl) ef49_2
  have ef49_0 := x_co (show (.ref q_4 : Value) = .ref (za 3) from (x_rf za3)) ef49_1
  have ew49 := x_co (show ((q_3, .inr (4, [.ref q_4, .null, .int 0, .int 0, .int 0, .int 0, .int 0, .int (-1)])) : Nat × va_E) = ((za 2), .inr (4, [.ref (za 3), .null, .int 0, .int 0, .int 0, .int 0, .int 0, .int (-1)])) from x_oc2 za2 ef49_0) ew50
  have ew48 := x_co (show ((q_14, .inl (y 3, 40, .inr (.inl (fun _ => 0)))) : Nat × va_E) = ((za 12), .inl (y 3, 40, .inr (.inl (fun _ => 0)))) from x_cJ za12 rfl) ew49
  have ew47 := x_co (show ((q_13, .inl (y 3, 40, .inr (.inl (fun _ => 0)))) : Nat × va_E) = ((za 11), .inl (y 3, 40, .inr (.inl (fun _ => 0)))) from x_cJ za11 rfl) ew48
  have ew46 := x_co (show ((q_12, .inl (y 2, 40, .inl (fun _ => 0))) : Nat × va_E) = ((za 10), .inl (y 2, 40, .inl (fun _ => 0))) from x_cI za10 rfl) ew47
  have ew45 := x_co (show ((q_11, .inl (y 3, 8, .inr (.inl (fun _ => 0)))) : Nat × va_E) = ((za 9), .inl (y 3, 8, .inr (.inl (fun _ => 0)))) from x_cJ za9 rfl) ew46
  have ef44_7 : ([] : List Value) = [] := rfl
  have ef44_6 := x_co (show (.int 0 : Value) = .int 0 from rfl) ef44_7
  have ef44_5 := x_co (show (.int 0 : Value) = .int 0 from rfl) ef44_6
  have ef44_4 := x_co (show (.int 0 : Value) = .int 0 from rfl) ef44_5
  have ef44_3 := x_co (show (.ref q_14 : Value) = .ref (za 12) from (x_rf za12)) ef44_4
  have ef44_2 := x_co (show (.ref q_13 : Value) = .ref (za 11) from (x_rf za11)) ef44_3
  have ef44_1 := x_co (show (.ref q_12 : Value) = .ref (za 10) from (x_rf za10)) ef44_2
  have ef44_0 := x_co (show (.ref q_11 : Value) = .ref (za 9) from (x_rf za9)) ef44_1
  have ew44 := x_co (show ((q_10, .inr (1, [.ref q_11, .ref q_12, .ref q_13, .ref q_14, .int 0, .int 0, .int 0])) : Nat × va_E) = ((za 8), .inr (1, [.ref (za 9), .ref (za 10), .ref (za 11), .ref (za 12), .int 0, .int 0, .int 0])) from x_oc2 za8 ef44_0) ew45
  have ew43 := x_co (show ((q_17, .inl (y 2, 84, .inl (fun _ => 0))) : Nat × va_E) = ((za 15), .inl (y 2, 84, .inl (fun _ => 0))) from x_cI za15 rfl) ew44
  have ew42 := x_co (show ((q_16, .inl (y 2, 64, .inl (fun _ => 0))) : Nat × va_E) = ((za 14), .inl (y 2, 64, .inl (fun _ => 0))) from x_cI za14 rfl) ew43
  have ef41_6 : ([] : List Value) = [] := rfl
  have ef41_5 := x_co (show (.int 0 : Value) = .int 0 from rfl) ef41_6
  have ef41_4 := x_co (show (.int 0 : Value) = .int 0 from rfl) ef41_5
  have ef41_3 := x_co (show (.null : Value) = .null from rfl) ef41_4
  have ef41_2 := x_co (show (.null : Value) = .null from rfl) ef41_3
  have ef41_1 := x_co (show (.ref q_17 : Value) = .ref (za 15) from (x_rf za15)) ef41_2
  have ef41_0 := x_co (show (.ref q_16 : Value) = .ref (za 14) from (x_rf za14)) ef41_1
  have ew41 := x_co (show ((q_15, .inr (3, [.ref q_16, .ref q_17, .null, .null, .int 0, .int 0])) : Nat × va_E) = ((za 13), .inr (3, [.ref (za 14), .ref (za 15), .null, .null, .int 0, .int 0])) from x_oc2 za13 ef41_0) ew42
  have ew40 := x_co (show ((q_23, .inl (y 4, 1359, .inl (fun _ => 0))) : Nat × va_E) = ((za 21), .inl (y 4, 1359, .inl (fun _ => 0))) from x_cI za21 rfl) ew41
  have ew39 := x_co (show ((q_22, .inl (y 2, 1359, .inl (fun _ => 0))) : Nat × va_E) = ((za 20), .inl (y 2, 1359, .inl (fun _ => 0))) from x_cI za20 rfl) ew40
  have ew38 := x_co (show ((q_21, .inl (y 3, 1359, .inr (.inl (fun _ => 0)))) : Nat × va_E) = ((za 19), .inl (y 3, 1359, .inr (.inl (fun _ => 0)))) from x_cJ za19 rfl) ew39
  have ew37 := x_co (show ((q_20, .inl (y 3, 1359, .inr (.inl (fun _ => 0)))) : Nat × va_E) = ((za 18), .inl (y 3, 1359, .inr (.inl (fun _ => 0)))) from x_cJ za18 rfl) ew38
  have ew36 := x_co (show ((q_19, .inl (y 3, 1359, .inr (.inl (fun _ => 0)))) : Nat × va_E) = ((za 17), .inl (y 3, 1359, .inr (.inl (fun _ => 0)))) from x_cJ za17 rfl) ew37
  have ef35_5 : ([] : List Value) = [] := rfl
  have ef35_4 := x_co (show (.ref q_23 : Value) = .ref (za 21) from (x_rf za21)) ef35_5
  have ef35_3 := x_co (show (.ref q_22 : Value) = .ref (za 20) from (x_rf za20)) ef35_4
  have ef35_2 := x_co (show (.ref q_21 : Value) = .ref (za 19) from (x_rf za19)) ef35_3
  have ef35_1 := x_co (show (.ref q_20 : Value) = .ref (za 18) from (x_rf za18)) ef35_2
  have ef35_0 := x_co (show (.ref q_19 : Value) = .ref (za 17) from (x_rf za17)) ef35_1
  have ew35 := x_co (show ((q_18, .inr (6, [.ref q_19, .ref q_20, .ref q_21, .ref q_22, .ref q_23])) : Nat × va_E) = ((za 16), .inr (6, [.ref (za 17), .ref (za 18), .ref (za 19), .ref (za 20), .ref (za 21)])) from x_oc2 za16 ef35_0) ew36
  have ew34 := x_co (show ((q_26, .inl (y 2, 8, .inl (fun _ => 0))) : Nat × va_E) = ((za 24), .inl (y 2, 8, .inl (fun _ => 0))) from x_cI za24 rfl) ew35
  have ew33 := x_co (show ((q_25, .inl (y 2, 8, .inl (fun _ => 0))) : Nat × va_E) = ((za 23), .inl (y 2, 8, .inl (fun _ => 0))) from x_cI za23 rfl) ew34
  have ef32_3 : ([] : List Value) = [] := rfl
  have ef32_2 := x_co (show (.int 0 : Value) = .int 0 from rfl) ef32_3
  have ef32_1 := x_co (show (.ref q_26 : Value) = .ref (za 24) from (x_rf za24)) ef32_2
  have ef32_0 := x_co (show (.ref q_25 : Value) = .ref (za 23) from (x_rf za23)) ef32_1
  have ew32 := x_co (show ((q_24, .inr (0, [.ref q_25, .ref q_26, .int 0])) : Nat × va_E) = ((za 22), .inr (0, [.ref (za 23), .ref (za 24), .int 0])) from x_oc2 za22 ef32_0) ew33
  have ew31 := congrArg (fun l : va_W => xR y r_31 (fun _ _ => 0) ++ l) ew32
  have ew30 := congrArg (fun l : va_W => xR y r_30 (fun _ _ => 0) ++ l) ew31
  have ew29 := x_co (show ((o_29, .inl (y 5, 11, .inr (.inr (.inr (.inr (xG r_31)))))) : Nat × va_E) = ((za 27), .inl (y 5, 11, .inr (.inr (.inr (.inr (xG r_31)))))) from x_cG za27 rfl) ew30
  have ew28 := x_co (show ((o_28, .inl (y 5, 11, .inr (.inr (.inr (.inr (xG r_30)))))) : Nat × va_E) = ((za 26), .inl (y 5, 11, .inr (.inr (.inr (.inr (xG r_30)))))) from x_cG za26 rfl) ew29
  have ef27_3 : ([] : List Value) = [] := rfl
  have ef27_2 := x_co (show (.int 0 : Value) = .int 0 from rfl) ef27_3
  have ef27_1 := x_co (show (.ref o_29 : Value) = .ref (za 27) from (x_rf za27)) ef27_2
  have ef27_0 := x_co (show (.ref o_28 : Value) = .ref (za 26) from (x_rf za26)) ef27_1
  have ew27 := x_co (show ((q_27, .inr (2, [.ref o_28, .ref o_29, .int 0])) : Nat × va_E) = ((za 25), .inr (2, [.ref (za 26), .ref (za 27), .int 0])) from x_oc2 za25 ef27_0) ew28
  have ew26 := x_co (show ((q_37, .inl (y 2, 12, .inl (fun _ => 0))) : Nat × va_E) = ((za 33), .inl (y 2, 12, .inl (fun _ => 0))) from x_cI za33 rfl) ew27
  have ew25 := x_co (show ((q_36, .inl (y 2, 1359, .inl (fun _ => 0))) : Nat × va_E) = ((za 32), .inl (y 2, 1359, .inl (fun _ => 0))) from x_cI za32 rfl) ew26
  have ew24 := x_co (show ((q_35, .inl (y 2, 1359, .inl (fun _ => 0))) : Nat × va_E) = ((za 31), .inl (y 2, 1359, .inl (fun _ => 0))) from x_cI za31 rfl) ew25
  have ew23 := x_co (show ((q_34, .inl (y 2, 1359, .inl (fun _ => 0))) : Nat × va_E) = ((za 30), .inl (y 2, 1359, .inl (fun _ => 0))) from x_cI za30 rfl) ew24
  have ew22 := x_co (show ((q_33, .inl (y 3, 1359, .inr (.inl (fun _ => 0)))) : Nat × va_E) = ((za 29), .inl (y 3, 1359, .inr (.inl (fun _ => 0)))) from x_cJ za29 rfl) ew23
  have ef21_13 : ([] : List Value) = [] := rfl
  have ef21_12 := x_co (show (.long 0 : Value) = .long 0 from rfl) ef21_13
  have ef21_11 := x_co (show (.int 0 : Value) = .int 0 from rfl) ef21_12
  have ef21_10 := x_co (show (.int 0 : Value) = .int 0 from rfl) ef21_11
  have ef21_9 := x_co (show (.int 0 : Value) = .int 0 from rfl) ef21_10
  have ef21_8 := x_co (show (.int 0 : Value) = .int 0 from rfl) ef21_9
  have ef21_7 := x_co (show (.int 0 : Value) = .int 0 from rfl) ef21_8
  have ef21_6 := x_co (show (.int 0 : Value) = .int 0 from rfl) ef21_7
  have ef21_5 := x_co (show (.int (-1) : Value) = .int (-1) from rfl) ef21_6
  have ef21_4 := x_co (show (.ref q_37 : Value) = .ref (za 33) from (x_rf za33)) ef21_5
  have ef21_3 := x_co (show (.ref q_36 : Value) = .ref (za 32) from (x_rf za32)) ef21_4
  have ef21_2 := x_co (show (.ref q_35 : Value) = .ref (za 31) from (x_rf za31)) ef21_3
  have ef21_1 := x_co (show (.ref q_34 : Value) = .ref (za 30) from (x_rf za30)) ef21_2
  have ef21_0 := x_co (show (.ref q_33 : Value) = .ref (za 29) from (x_rf za29)) ef21_1
  have ew21 := x_co (show ((q_32, .inr (7, [.ref q_33, .ref q_34, .ref q_35, .ref q_36, .ref q_37, .int (-1), .int 0, .int 0, .int 0, .int 0, .int 0, .int 0, .long 0])) : Nat × va_E) = ((za 28), .inr (7, [.ref (za 29), .ref (za 30), .ref (za 31), .ref (za 32), .ref (za 33), .int (-1), .int 0, .int 0, .int 0, .int 0, .int 0, .int 0, .long 0])) from x_oc2 za28 ef21_0) ew22
  have ew20 := x_co (show ((q_43, .inl (y 2, 12, .inl (fun _ => 0))) : Nat × va_E) = ((za 39), .inl (y 2, 12, .inl (fun _ => 0))) from x_cI za39 rfl) ew21
  have ew19 := x_co (show ((q_42, .inl (y 2, 1359, .inl (fun _ => 0))) : Nat × va_E) = ((za 38), .inl (y 2, 1359, .inl (fun _ => 0))) from x_cI za38 rfl) ew20
  have ew18 := x_co (show ((q_41, .inl (y 2, 1359, .inl (fun _ => 0))) : Nat × va_E) = ((za 37), .inl (y 2, 1359, .inl (fun _ => 0))) from x_cI za37 rfl) ew19
  have ew17 := x_co (show ((q_40, .inl (y 2, 1359, .inl (fun _ => 0))) : Nat × va_E) = ((za 36), .inl (y 2, 1359, .inl (fun _ => 0))) from x_cI za36 rfl) ew18
  have ew16 := x_co (show ((q_39, .inl (y 3, 1359, .inr (.inl (fun _ => 0)))) : Nat × va_E) = ((za 35), .inl (y 3, 1359, .inr (.inl (fun _ => 0)))) from x_cJ za35 rfl) ew17
  have ef15_13 : ([] : List Value) = [] := rfl
  have ef15_12 := x_co (show (.long 0 : Value) = .long 0 from rfl) ef15_13
  have ef15_11 := x_co (show (.int 0 : Value) = .int 0 from rfl) ef15_12
  have ef15_10 := x_co (show (.int 0 : Value) = .int 0 from rfl) ef15_11
  have ef15_9 := x_co (show (.int 0 : Value) = .int 0 from rfl) ef15_10
  have ef15_8 := x_co (show (.int 0 : Value) = .int 0 from rfl) ef15_9
  have ef15_7 := x_co (show (.int 0 : Value) = .int 0 from rfl) ef15_8
  have ef15_6 := x_co (show (.int 0 : Value) = .int 0 from rfl) ef15_7
  have ef15_5 := x_co (show (.int (-1) : Value) = .int (-1) from rfl) ef15_6
  have ef15_4 := x_co (show (.ref q_43 : Value) = .ref (za 39) from (x_rf za39)) ef15_5
  have ef15_3 := x_co (show (.ref q_42 : Value) = .ref (za 38) from (x_rf za38)) ef15_4
  have ef15_2 := x_co (show (.ref q_41 : Value) = .ref (za 37) from (x_rf za37)) ef15_3
  have ef15_1 := x_co (show (.ref q_40 : Value) = .ref (za 36) from (x_rf za36)) ef15_2
  have ef15_0 := x_co (show (.ref q_39 : Value) = .ref (za 35) from (x_rf za35)) ef15_1
  have ew15 := x_co (show ((q_38, .inr (7, [.ref q_39, .ref q_40, .ref q_41, .ref q_42, .ref q_43, .int (-1), .int 0, .int 0, .int 0, .int 0, .int 0, .int 0, .long 0])) : Nat × va_E) = ((za 34), .inr (7, [.ref (za 35), .ref (za 36), .ref (za 37), .ref (za 38), .ref (za 39), .int (-1), .int 0, .int 0, .int 0, .int 0, .int 0, .int 0, .long 0])) from x_oc2 za34 ef15_0) ew16
  have ew14 := x_co (show ((q_50, .inl (y 2, 700, .inl (fun _ => 0))) : Nat × va_E) = ((za 46), .inl (y 2, 700, .inl (fun _ => 0))) from x_cI za46 rfl) ew15
  have ew13 := x_co (show ((q_49, .inl (y 2, 700, .inl (fun _ => 0))) : Nat × va_E) = ((za 45), .inl (y 2, 700, .inl (fun _ => 0))) from x_cI za45 rfl) ew14
  have ew12 := x_co (show ((q_48, .inl (y 2, 350, .inl (fun _ => 0))) : Nat × va_E) = ((za 44), .inl (y 2, 350, .inl (fun _ => 0))) from x_cI za44 rfl) ew13
  have ew11 := x_co (show ((q_47, .inl (y 2, 24, .inl (fun _ => 0))) : Nat × va_E) = ((za 43), .inl (y 2, 24, .inl (fun _ => 0))) from x_cI za43 rfl) ew12
  have ew10 := x_co (show ((q_46, .inl (y 3, 24, .inr (.inl (fun _ => 0)))) : Nat × va_E) = ((za 42), .inl (y 3, 24, .inr (.inl (fun _ => 0)))) from x_cJ za42 rfl) ew11
  have ew9 := x_co (show ((q_45, .inl (y 2, 4, .inl (fun _ => 0))) : Nat × va_E) = ((za 41), .inl (y 2, 4, .inl (fun _ => 0))) from x_cI za41 rfl) ew10
  have ef8_13 : ([] : List Value) = [] := rfl
  have ef8_12 := x_co (show (.ref q_50 : Value) = .ref (za 46) from (x_rf za46)) ef8_13
  have ef8_11 := x_co (show (.ref q_49 : Value) = .ref (za 45) from (x_rf za45)) ef8_12
  have ef8_10 := x_co (show (.ref q_48 : Value) = .ref (za 44) from (x_rf za44)) ef8_11
  have ef8_9 := x_co (show (.ref q_47 : Value) = .ref (za 43) from (x_rf za43)) ef8_10
  have ef8_8 := x_co (show (.ref q_46 : Value) = .ref (za 42) from (x_rf za42)) ef8_9
  have ef8_7 := x_co (show (.int 0 : Value) = .int 0 from rfl) ef8_8
  have ef8_6 := x_co (show (.ref q_45 : Value) = .ref (za 41) from (x_rf za41)) ef8_7
  have ef8_5 := x_co (show (.int 0 : Value) = .int 0 from rfl) ef8_6
  have ef8_4 := x_co (show (.int 0 : Value) = .int 0 from rfl) ef8_5
  have ef8_3 := x_co (show (.int 0 : Value) = .int 0 from rfl) ef8_4
  have ef8_2 := x_co (show (.int 0 : Value) = .int 0 from rfl) ef8_3
  have ef8_1 := x_co (show (.int 0 : Value) = .int 0 from rfl) ef8_2
  have ef8_0 := x_co (show (.int 0 : Value) = .int 0 from rfl) ef8_1
  have ew8 := x_co (show ((q_44, .inr (5, [.int 0, .int 0, .int 0, .int 0, .int 0, .int 0, .ref q_45, .int 0, .ref q_46, .ref q_47, .ref q_48, .ref q_49, .ref q_50])) : Nat × va_E) = ((za 40), .inr (5, [.int 0, .int 0, .int 0, .int 0, .int 0, .int 0, .ref (za 41), .int 0, .ref (za 42), .ref (za 43), .ref (za 44), .ref (za 45), .ref (za 46)])) from x_oc2 za40 ef8_0) ew9
  have ew7 := x_co (show ((q_57, .inl (y 2, 700, .inl (fun _ => 0))) : Nat × va_E) = ((za 53), .inl (y 2, 700, .inl (fun _ => 0))) from x_cI za53 rfl) ew8
  have ew6 := x_co (show ((q_56, .inl (y 2, 700, .inl (fun _ => 0))) : Nat × va_E) = ((za 52), .inl (y 2, 700, .inl (fun _ => 0))) from x_cI za52 rfl) ew7
  have ew5 := x_co (show ((q_55, .inl (y 2, 350, .inl (fun _ => 0))) : Nat × va_E) = ((za 51), .inl (y 2, 350, .inl (fun _ => 0))) from x_cI za51 rfl) ew6
  have ew4 := x_co (show ((q_54, .inl (y 2, 24, .inl (fun _ => 0))) : Nat × va_E) = ((za 50), .inl (y 2, 24, .inl (fun _ => 0))) from x_cI za50 rfl) ew5
  have ew3 := x_co (show ((q_53, .inl (y 3, 24, .inr (.inl (fun _ => 0)))) : Nat × va_E) = ((za 49), .inl (y 3, 24, .inr (.inl (fun _ => 0)))) from x_cJ za49 rfl) ew4
  have ew2 := x_co (show ((q_52, .inl (y 2, 4, .inl (fun _ => 0))) : Nat × va_E) = ((za 48), .inl (y 2, 4, .inl (fun _ => 0))) from x_cI za48 rfl) ew3
  have ef1_13 : ([] : List Value) = [] := rfl
  have ef1_12 := x_co (show (.ref q_57 : Value) = .ref (za 53) from (x_rf za53)) ef1_13
  have ef1_11 := x_co (show (.ref q_56 : Value) = .ref (za 52) from (x_rf za52)) ef1_12
  have ef1_10 := x_co (show (.ref q_55 : Value) = .ref (za 51) from (x_rf za51)) ef1_11
  have ef1_9 := x_co (show (.ref q_54 : Value) = .ref (za 50) from (x_rf za50)) ef1_10
  have ef1_8 := x_co (show (.ref q_53 : Value) = .ref (za 49) from (x_rf za49)) ef1_9
  have ef1_7 := x_co (show (.int 0 : Value) = .int 0 from rfl) ef1_8
  have ef1_6 := x_co (show (.ref q_52 : Value) = .ref (za 48) from (x_rf za48)) ef1_7
  have ef1_5 := x_co (show (.int 0 : Value) = .int 0 from rfl) ef1_6
  have ef1_4 := x_co (show (.int 0 : Value) = .int 0 from rfl) ef1_5
  have ef1_3 := x_co (show (.int 0 : Value) = .int 0 from rfl) ef1_4
  have ef1_2 := x_co (show (.int 0 : Value) = .int 0 from rfl) ef1_3
  have ef1_1 := x_co (show (.int 0 : Value) = .int 0 from rfl) ef1_2
  have ef1_0 := x_co (show (.int 0 : Value) = .int 0 from rfl) ef1_1
  have ew1 := x_co (show ((q_51, .inr (5, [.int 0, .int 0, .int 0, .int 0, .int 0, .int 0, .ref q_52, .int 0, .ref q_53, .ref q_54, .ref q_55, .ref q_56, .ref q_57])) : Nat × va_E) = ((za 47), .inr (5, [.int 0, .int 0, .int 0, .int 0, .int 0, .int 0, .ref (za 48), .int 0, .ref (za 49), .ref (za 50), .ref (za 51), .ref (za 52), .ref (za 53)])) from x_oc2 za47 ef1_0) ew2
  have ef0_11 : ([] : List Value) = [] := rfl
  have ef0_10 := x_co (show (.ref q_51 : Value) = .ref (za 47) from (x_rf za47)) ef0_11
  have ef0_9 := x_co (show (.ref q_44 : Value) = .ref (za 40) from (x_rf za40)) ef0_10
  have ef0_8 := x_co (show (.ref q_38 : Value) = .ref (za 34) from (x_rf za34)) ef0_9
  have ef0_7 := x_co (show (.ref q_32 : Value) = .ref (za 28) from (x_rf za28)) ef0_8
  have ef0_6 := x_co (show (.ref q_27 : Value) = .ref (za 25) from (x_rf za25)) ef0_7
  have ef0_5 := x_co (show (.ref q_24 : Value) = .ref (za 22) from (x_rf za22)) ef0_6
  have ef0_4 := x_co (show (.ref q_18 : Value) = .ref (za 16) from (x_rf za16)) ef0_5
  have ef0_3 := x_co (show (.ref q_15 : Value) = .ref (za 13) from (x_rf za13)) ef0_4
  have ef0_2 := x_co (show (.ref q_10 : Value) = .ref (za 8) from (x_rf za8)) ef0_3
  have ef0_1 := x_co (show (.ref q_3 : Value) = .ref (za 2) from (x_rf za2)) ef0_2
  have ef0_0 := x_co (show (.ref q_1 : Value) = .ref (za 0) from (x_rf za0)) ef0_1
  have ew0 := x_co (show ((h0, .inr (10, [.ref q_1, .ref q_3, .ref q_10, .ref q_15, .ref q_18, .ref q_24, .ref q_27, .ref q_32, .ref q_38, .ref q_44, .ref q_51])) : Nat × va_E) = (h0, .inr (10, [.ref (za 0), .ref (za 2), .ref (za 8), .ref (za 13), .ref (za 16), .ref (za 22), .ref (za 25), .ref (za 28), .ref (za 34), .ref (za 40), .ref (za 47)])) from x_oc2 rfl ef0_0) ew1
  have ew : ((h0, .inr (10, [.ref q_1, .ref q_3, .ref q_10, .ref q_15, .ref q_18, .ref q_24, .ref q_27, .ref q_32, .ref q_38, .ref q_44, .ref q_51])) :: ([(q_51, .inr (5, [.int 0, .int 0, .int 0, .int 0, .int 0, .int 0, .ref q_52, .int 0, .ref q_53, .ref q_54, .ref q_55, .ref q_56, .ref q_57])), (q_52, .inl (y 2, 4, .inl (fun _ => 0))), (q_53, .inl (y 3, 24, .inr (.inl (fun _ => 0)))), (q_54, .inl (y 2, 24, .inl (fun _ => 0))), (q_55, .inl (y 2, 350, .inl (fun _ => 0))), (q_56, .inl (y 2, 700, .inl (fun _ => 0))), (q_57, .inl (y 2, 700, .inl (fun _ => 0)))] ++ ([(q_44, .inr (5, [.int 0, .int 0, .int 0, .int 0, .int 0, .int 0, .ref q_45, .int 0, .ref q_46, .ref q_47, .ref q_48, .ref q_49, .ref q_50])), (q_45, .inl (y 2, 4, .inl (fun _ => 0))), (q_46, .inl (y 3, 24, .inr (.inl (fun _ => 0)))), (q_47, .inl (y 2, 24, .inl (fun _ => 0))), (q_48, .inl (y 2, 350, .inl (fun _ => 0))), (q_49, .inl (y 2, 700, .inl (fun _ => 0))), (q_50, .inl (y 2, 700, .inl (fun _ => 0)))] ++ ([(q_38, .inr (7, [.ref q_39, .ref q_40, .ref q_41, .ref q_42, .ref q_43, .int (-1), .int 0, .int 0, .int 0, .int 0, .int 0, .int 0, .long 0])), (q_39, .inl (y 3, 1359, .inr (.inl (fun _ => 0)))), (q_40, .inl (y 2, 1359, .inl (fun _ => 0))), (q_41, .inl (y 2, 1359, .inl (fun _ => 0))), (q_42, .inl (y 2, 1359, .inl (fun _ => 0))), (q_43, .inl (y 2, 12, .inl (fun _ => 0)))] ++ ([(q_32, .inr (7, [.ref q_33, .ref q_34, .ref q_35, .ref q_36, .ref q_37, .int (-1), .int 0, .int 0, .int 0, .int 0, .int 0, .int 0, .long 0])), (q_33, .inl (y 3, 1359, .inr (.inl (fun _ => 0)))), (q_34, .inl (y 2, 1359, .inl (fun _ => 0))), (q_35, .inl (y 2, 1359, .inl (fun _ => 0))), (q_36, .inl (y 2, 1359, .inl (fun _ => 0))), (q_37, .inl (y 2, 12, .inl (fun _ => 0)))] ++ (([(q_27, .inr (2, [.ref o_28, .ref o_29, .int 0])), (o_28, .inl (y 5, 11, .inr (.inr (.inr (.inr (xG r_30)))))), (o_29, .inl (y 5, 11, .inr (.inr (.inr (.inr (xG r_31))))))] ++ (xR y r_30 (fun _ _ => 0) ++ xR y r_31 (fun _ _ => 0))) ++ ([(q_24, .inr (0, [.ref q_25, .ref q_26, .int 0])), (q_25, .inl (y 2, 8, .inl (fun _ => 0))), (q_26, .inl (y 2, 8, .inl (fun _ => 0)))] ++ ([(q_18, .inr (6, [.ref q_19, .ref q_20, .ref q_21, .ref q_22, .ref q_23])), (q_19, .inl (y 3, 1359, .inr (.inl (fun _ => 0)))), (q_20, .inl (y 3, 1359, .inr (.inl (fun _ => 0)))), (q_21, .inl (y 3, 1359, .inr (.inl (fun _ => 0)))), (q_22, .inl (y 2, 1359, .inl (fun _ => 0))), (q_23, .inl (y 4, 1359, .inl (fun _ => 0)))] ++ ([(q_15, .inr (3, [.ref q_16, .ref q_17, .null, .null, .int 0, .int 0])), (q_16, .inl (y 2, 64, .inl (fun _ => 0))), (q_17, .inl (y 2, 84, .inl (fun _ => 0)))] ++ ([(q_10, .inr (1, [.ref q_11, .ref q_12, .ref q_13, .ref q_14, .int 0, .int 0, .int 0])), (q_11, .inl (y 3, 8, .inr (.inl (fun _ => 0)))), (q_12, .inl (y 2, 40, .inl (fun _ => 0))), (q_13, .inl (y 3, 40, .inr (.inl (fun _ => 0)))), (q_14, .inl (y 3, 40, .inr (.inl (fun _ => 0))))] ++ ([(q_3, .inr (4, [.ref q_4, .null, .int 0, .int 0, .int 0, .int 0, .int 0, .int (-1)])), (q_4, .inr (9, [.ref q_5, .ref q_6, .ref q_7, .ref q_8, .int 0, .int 0])), (q_5, .inl (y 3, 14, .inr (.inl f_9))), (q_6, .inl (y 2, 700, .inl (fun _ => 0))), (q_7, .inl (y 2, 700, .inl (fun _ => 0))), (q_8, .inl (y 3, 700, .inr (.inl (fun _ => 0))))] ++ ([(q_1, .inr (8, [.ref q_2, .int 0])), (q_2, .inl (y 0, 700, .inl (fun _ => 0)))] ++ [])))))))))))) = xW y h0 (za, r_30, r_31, f_9) := ew0
  exact ⟨(za, r_30, r_31, f_9), x_trP hP ew, x_trD hD ew⟩


