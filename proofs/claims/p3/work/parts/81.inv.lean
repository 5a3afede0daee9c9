/-! What holds between the calls of the law, and how the loop begins. -/
/-- where the objects of a new class lie -/
def xJd (h0 : Nat) (u : Nat → Nat) (k : Nat) : Nat := List.getD [h0, 0, 0, 0, 0, 0, 0, 0, 0, 0, 0, 0, 0, 0, 0, 0, 0, 0, 0, 0, u 0, u 1, 0, 0, 0, 0, 0, 0, 0, 0, u 2, 0, 0, 0, 0, 0, 0, 0, 0, 0, u 3, u 4, u 5, u 6, u 7, 0, 0, 0, 0, 0, 0, 0, 0, 0, 0, 0, 0, 0, 0, 0, u 47, 0, 0, 0, 0, 0, 0, u 48, 0, u 49, u 50, u 51, u 52, u 53, 0, 0, 0, 0, 0, 0, u 40, 0, 0, 0, 0, 0, 0, u 41, 0, u 42, u 43, u 44, u 45, u 46, 0, 0, 0, 0, 0, 0, u 8, u 9, u 10, u 11, u 12, 0, 0, 0, 0, 0, u 13, u 14, u 15, 0, 0, 0, 0, 0, 0, 0, 0, 0, 0, 0, 0, 0, 0, 0, 0, 0, u 28, u 29, u 30, u 31, u 32, u 33, 0, 0, 0, 0, 0, 0, 0, 0, 0, 0, 0, 0, 0, 0, u 34, u 35, u 36, u 37, u 38, u 39, 0, 0, 0, 0, 0, 0, 0, 0, 0, 0, 0, 0, 0, 0, u 16, u 17, u 18, u 19, u 20, u 21, 0, 0, 0, 0, u 22, u 23, u 24, 0, 0, 0, 0, 0, 0, 0, u 25] k 0
/-- the state of a new class -/
def xJs (ow : Nat → Int64) : OS := (fun k => if k = 38 ∨ k = 136 ∨ k = 156 then -1 else 0, fun _ => 0, fun _ _ => 0, fun k => if k = 41 then ow else fun _ => 0)
/-- the class between two calls: its text is t long -/
def CX (y : Nat → ClassId) (h0 : Nat) (t : Int) (X : va_W) : Prop := ∃ (ad : Nat → Nat) (iv pv tv : Value) (o1 o2 : Nat) (r1 r2 : Nat → Nat) (fi : Int32) (F1 F2 : Nat → Nat → Int32) (σ : OS), X = xwd y ad iv pv tv (KL y (ad 190) o1 o2 r1 r2 fi F1 F2) σ ∧ ad 0 = h0 ∧ XI σ ∧ KI fi F1 F2 ∧ (σ.1 22).toInt = t
/-- the reference's state between two calls -/
def RI (σ : OS) : Prop := (0 ≤ (σ.1 1).toInt ∧ (σ.1 1).toInt ≤ 700) ∧ (0 ≤ (σ.1 47).toInt ∧ (σ.1 47).toInt ≤ (σ.1 48).toInt ∧ (σ.1 48).toInt ≤ 40) ∧ (0 ≤ (σ.1 79).toInt ∧ (σ.1 79).toInt ≤ 8) ∧ PG (σ.2.2.1 24) (σ.2.2.1 85) (σ.2.2.1 28) ∧ opc (σ.2.2.1 59) (σ.2.2.1 60) (σ.2.2.1 61) ∧ bI (σ.2.2.1 49) 0 7 ∧ bI (σ.2.2.1 62) 0 1760 ∧ bI (σ.2.2.1 63) 0 1000 ∧ bI (σ.2.2.1 25) 0 16 ∧ bI (σ.2.2.1 64) 0 12 ∧ bI (σ.2.2.1 65) 0 1759 ∧ bI (σ.2.2.1 26) 0 9999 ∧ bI (σ.2.2.1 35) 0 23 ∧ bI (σ.2.2.1 80) (-1) 9 ∧ bJ (σ.2.2.2 50) (-1000000000) 1000000000 ∧ bJ (σ.2.2.2 51) 0 1000000000 ∧ bJ (σ.2.2.2 52) (-1000000000) 1000000000 ∧ bJ (σ.2.2.2 53) 0 1000000000 ∧ bJ (σ.2.2.2 45) (-1000000000) 1000000000 ∧ bJ (σ.2.2.2 46) 0 1000000000 ∧ bJ (σ.2.2.2 55) (-1000000000) 1000000000 ∧ bJ (σ.2.2.2 56) 0 1000000000 ∧ bJ (σ.2.2.2 57) (-1000000000) 1000000000 ∧ bJ (σ.2.2.2 58) 0 1000000000 ∧ bJ (σ.2.2.2 75) (-1000000000) 1000000000 ∧ bJ (σ.2.2.2 76) 0 1000000000
def RX (y : Nat → ClassId) (h1 : Nat) (t : Int) (Y : va_W) : Prop := ∃ (ad : Nat → Nat) (zw : Nat → Nat → Int32) (σ : OS), Y = mwd y ad zw σ ∧ ad 1 = h1 ∧ RI σ ∧ (σ.1 1).toInt = t
theorem x_rng0 : ∀ X : va_W, (List.range X.length).map (fun i => X[i]?) = X.map some := fun X => by
  apply List.ext_getElem?
  intro i
  by_cases hi : i < X.length
  · simp [hi]
  · simp [hi]
theorem x_rng (X Y : va_W) : (List.range X.length).map (fun i => (X ++ Y)[i]?) = X.map some := by
  rw [← x_rng0 X]
  refine List.map_congr_left (fun i hi => ?_)
  exact List.getElem?_append_left (List.mem_range.mp hi)
theorem x_lP {D : va_G} {X Y : va_W} {H : Heap} (hP : va_P D vwCl (X ++ Y) H) : va_P D vwCl X H := fun k q hk => hP k q (x_apl hk)
theorem x_lD {A : Nat → Prop} {X Y : va_W} (hD : va_D A (X ++ Y)) : va_D A X := ⟨fun i j p q hp hq h => hD.1 i j p q (x_apl hp) (x_apl hq) h, fun k q hk => hD.2 k q (x_apl hk)⟩
theorem x_rP {D : va_G} {X Y : va_W} {H : Heap} (hP : va_P D vwCl (X ++ Y) H) : va_P D vwCl Y H := fun k q hk => hP _ q (x_apr hk)
theorem x_rD {A : Nat → Prop} {X Y : va_W} (hD : va_D A (X ++ Y)) : va_D A Y := ⟨fun i j p q hp hq h => by have h9 := hD.1 _ _ p q (x_apr (X := X) hp) (x_apr (X := X) hq) h; omega, fun k q hk => hD.2 _ q (x_apr (X := X) hk)⟩
theorem x_wP {D : va_G} {X Y : va_W} {H : Heap} (hP : va_P D vwCl (X ++ Y) H) : va_P D vwCl (Y ++ X) H := va_P.swap (a := []) (b := X) (c := Y) hP
theorem x_wD {A : Nat → Prop} {X Y : va_W} (hD : va_D A (X ++ Y)) : va_D A (Y ++ X) := va_D.swap (a := []) (b := X) (c := Y) hD
theorem x_ix {i k : Int32} {L : Nat} (hi0 : 0 ≤ i.toInt) (hi1 : i.toInt + 6 ≤ (L : Int)) (hL : L ≤ 3072) (hk0 : 0 ≤ k.toInt) (hk1 : k.toInt ≤ 5) : vp_in (i + k) L := by
  have e := x_add (x := i) (y := k) (z := i + k) rfl (by omega) (by omega)
  exact x_in (by omega) (by omega)
theorem x_sl {L : Nat} (h : L ≤ 3072) : (Int32.ofNat L - 6).toInt = (L : Int) - 6 := by
  have e0 : (Int32.ofNat L).toInt = (L : Int) := Int32.toInt_ofNat_of_lt (by omega)
  have e1 : (6 : Int32).toInt = 6 := rfl
  have e := x_sub (x := Int32.ofNat L) (y := 6) rfl (by omega) (by omega)
  omega
section LQ
variable {p : Program} {l : Launch} {e : Env} {R : Room} {s : State} {m : MethodId} {args : Array Value} {below : List Frame} {meth : Method} {c : Code} {H : Heap} {locs : List Loc} {cells slots : Nat} {Q : State → Prop}
variable {pc : Nat} {ls : Array Slot} {rest : List Value} {D : va_G} {A : Nat → Prop} {tys : List (ClassId × FieldType)} {H0 : Heap}
theorem x_calliA {S : Type} {post : Int32 → S → Prop} {w1 : S → va_W} {X pl : va_W} {mc ms : Nat} {st0 : List Value} {a : Array Value}
    (hr : va_Run p l e R s m args below meth c H locs cells slots mc ms (F0 m pc ls st0) rest (va_Qi post (fun u => xB D tys (va_A X H.size) (w1 u)) (va_A X H.size) a) (va_A X H.size))
    (hP : va_P D vwCl (X ++ pl) H) (hD : va_D A (X ++ pl)) (hS : va_S A H0 H locs) (hA : ∀ q, H0.size ≤ q → A q)
    (kk : ∀ (r : Int32) (u : S) (H1 : Heap) (locs1 : List Loc), post r u → va_P D vwCl (w1 u ++ pl) H1 → va_D A (w1 u ++ pl) → va_S A H0 H1 locs1 → W p l e R s m args below meth c H1 locs1 (cells + mc) (slots + ms) Q (F0 m (pc + 3) ls (.int r :: rest))) : W p l e R s m args below meth c H locs cells slots Q (F0 m pc ls st0) := by
  have hFc := va_free (wc := X) hD hS hA (List.range X.length) (x_rng X pl)
  refine va_calli hr hS (fun q _ h => hFc q h) hFc (fun r u t H1 locs1 ht hvm hw hB hz1 hk1 hS1 => ?_)
  obtain ⟨hP1, hK1, hD1⟩ := hB
  rw [ht] at hP1
  obtain ⟨hP2, hD2⟩ := va_joinQ (wr := []) (w1 := w1 u) hP hD (List.range X.length) [] (x_rng0 X) rfl rfl (fun i h => absurd h List.not_mem_nil) hk1 hFc hP1 hD1
  exact kk r u H1 locs1 hw hP2 hD2 hS1
theorem x_calliB {S : Type} {post : Int32 → S → Prop} {w1 : S → va_W} {X pl : va_W} {mc ms : Nat} {st0 : List Value} {a : Array Value}
    (hr : va_Run p l e R s m args below meth c H locs cells slots mc ms (F0 m pc ls st0) rest (va_Qi post (fun u => xB D tys (va_A X H.size) (w1 u)) (va_A X H.size) a) (va_A X H.size))
    (hP : va_P D vwCl (pl ++ X) H) (hD : va_D A (pl ++ X)) (hS : va_S A H0 H locs) (hA : ∀ q, H0.size ≤ q → A q)
    (kk : ∀ (r : Int32) (u : S) (H1 : Heap) (locs1 : List Loc), post r u → va_P D vwCl (pl ++ w1 u) H1 → va_D A (pl ++ w1 u) → va_S A H0 H1 locs1 → W p l e R s m args below meth c H1 locs1 (cells + mc) (slots + ms) Q (F0 m (pc + 3) ls (.int r :: rest))) : W p l e R s m args below meth c H locs cells slots Q (F0 m pc ls st0) :=
  x_calliA hr (x_wP hP) (x_wD hD) hS hA (fun r u H1 locs1 hw hP hD hS => kk r u H1 locs1 hw (x_wP hP) (x_wD hD) hS)
theorem x_calllA {S : Type} {post : Int64 → S → Prop} {w1 : S → va_W} {X pl : va_W} {mc ms : Nat} {st0 : List Value} {a : Array Value}
    (hr : va_Run p l e R s m args below meth c H locs cells slots mc ms (F0 m pc ls st0) rest (va_Ql post (fun u => xB D tys (va_A X H.size) (w1 u)) (va_A X H.size) a) (va_A X H.size))
    (hP : va_P D vwCl (X ++ pl) H) (hD : va_D A (X ++ pl)) (hS : va_S A H0 H locs) (hA : ∀ q, H0.size ≤ q → A q)
    (kk : ∀ (r : Int64) (u : S) (H1 : Heap) (locs1 : List Loc), post r u → va_P D vwCl (w1 u ++ pl) H1 → va_D A (w1 u ++ pl) → va_S A H0 H1 locs1 → W p l e R s m args below meth c H1 locs1 (cells + mc) (slots + ms) Q (F0 m (pc + 3) ls (.long r :: rest))) : W p l e R s m args below meth c H locs cells slots Q (F0 m pc ls st0) := by
  have hFc := va_free (wc := X) hD hS hA (List.range X.length) (x_rng X pl)
  refine va_calll hr hS (fun q _ h => hFc q h) hFc (fun r u t H1 locs1 ht hvm hw hB hz1 hk1 hS1 => ?_)
  obtain ⟨hP1, hK1, hD1⟩ := hB
  rw [ht] at hP1
  obtain ⟨hP2, hD2⟩ := va_joinQ (wr := []) (w1 := w1 u) hP hD (List.range X.length) [] (x_rng0 X) rfl rfl (fun i h => absurd h List.not_mem_nil) hk1 hFc hP1 hD1
  exact kk r u H1 locs1 hw hP2 hD2 hS1
theorem x_calllB {S : Type} {post : Int64 → S → Prop} {w1 : S → va_W} {X pl : va_W} {mc ms : Nat} {st0 : List Value} {a : Array Value}
    (hr : va_Run p l e R s m args below meth c H locs cells slots mc ms (F0 m pc ls st0) rest (va_Ql post (fun u => xB D tys (va_A X H.size) (w1 u)) (va_A X H.size) a) (va_A X H.size))
    (hP : va_P D vwCl (pl ++ X) H) (hD : va_D A (pl ++ X)) (hS : va_S A H0 H locs) (hA : ∀ q, H0.size ≤ q → A q)
    (kk : ∀ (r : Int64) (u : S) (H1 : Heap) (locs1 : List Loc), post r u → va_P D vwCl (pl ++ w1 u) H1 → va_D A (pl ++ w1 u) → va_S A H0 H1 locs1 → W p l e R s m args below meth c H1 locs1 (cells + mc) (slots + ms) Q (F0 m (pc + 3) ls (.long r :: rest))) : W p l e R s m args below meth c H locs cells slots Q (F0 m pc ls st0) :=
  x_calllA hr (x_wP hP) (x_wD hD) hS hA (fun r u H1 locs1 hw hP hD hS => kk r u H1 locs1 hw (x_wP hP) (x_wD hD) hS)
end LQ
theorem xwv_tail (y : Nat → ClassId) (ad : Nat → Nat) (iv pv tv : Value) (kt Y : va_W) (cu sp : Value) (σ : OS) : xwv y ad iv pv tv kt cu sp σ ++ Y = xwv y ad iv pv tv (kt ++ Y) cu sp σ := by
  unfold xwv
  exact List.append_assoc _ _ _
theorem xwd_tail (y : Nat → ClassId) (ad : Nat → Nat) (iv pv tv : Value) (kt Y : va_W) (σ : OS) : xwd y ad iv pv tv kt σ ++ Y = xwd y ad iv pv tv (kt ++ Y) σ := by
  unfold xwd
  exact List.append_assoc _ _ _
set_option maxHeartbeats 4000000 in
set_option maxRecDepth 100000 in
theorem x_xWi (y : Nat → ClassId) (h0 : Nat) (u : (Nat → Nat) × (Nat → Nat) × (Nat → Nat) × (Nat → Int64)) : ([0, 75, 69, 70, 1, 8, 64, 61, 21, 15, 55, 52, 76, 71, 72, 73, 74, 2, 3, 4, 5, 6, 7, 9, 10, 11, 12, 13, 14, 65, 66, 67, 68, 62, 63, 22, 23, 24, 25, 26, 16, 17, 18, 19, 20, 56, 57, 58, 59, 60, 53, 54, 27, 28, 29, 30, 31, 32, 33, 34, 35, 36, 37, 38, 39, 40, 41, 42, 43, 44, 45, 46, 47, 48, 49, 50, 51] : List Nat).map (fun i => (xW y h0 u)[i]?) = (xwd y (xJd h0 u.1) .null .null .null (KL y (xJd h0 u.1 190) (u.1 26) (u.1 27) u.2.1 u.2.2.1 0 (fun _ _ => 0) (fun _ _ => 0)) (xJs u.2.2.2)).map some := rfl
theorem x_XI0 (ow : Nat → Int64) : XI (xJs ow) := by
  refine ⟨?_, ?_, ?_, ?_, ?_, ?_, ?_, ?_, ?_, ?_, ?_, ?_, ?_, ?_, ?_, ?_, ?_, ?_, ?_, ?_, ?_, ?_, ?_, ?_, fun i => ?_, fun i => ?_, fun i => ?_, fun i => ?_, fun i => ?_, fun i => ?_, fun i => ?_⟩ <;> first | exact (by decide : (0 : Int) ≤ (0 : Int32).toInt) | exact (by decide : (0 : Int32).toInt ≤ 700) | exact (by decide : (0 : Int32).toInt ≤ 8) | exact (by decide : (0 : Int32).toInt ≤ 4) | exact (by decide : (0 : Int32).toInt ≤ 350) | exact (by decide : (0 : Int32).toInt ≤ 1359) | exact (by decide : (0 : Int32).toInt ≤ 12) | exact (by decide : (0 : Int32).toInt ≤ 40) | exact (by decide : (0 : Int32).toInt ≤ (0 : Int32).toInt) | exact (by decide : (0 : Int) ≤ (0 : Int32).toInt ∧ (0 : Int32).toInt ≤ 7) | exact (by decide : (0 : Int) ≤ (0 : Int32).toInt ∧ (0 : Int32).toInt ≤ 1358)
theorem x_CX0 (y : Nat → ClassId) (h0 : Nat) (u : (Nat → Nat) × (Nat → Nat) × (Nat → Nat) × (Nat → Int64)) : CX y h0 0 (xwd y (xJd h0 u.1) .null .null .null (KL y (xJd h0 u.1 190) (u.1 26) (u.1 27) u.2.1 u.2.2.1 0 (fun _ _ => 0) (fun _ _ => 0)) (xJs u.2.2.2)) := ⟨_, _, _, _, _, _, _, _, _, _, _, _, rfl, rfl, x_XI0 _, Or.inl ⟨rfl, fun _ _ _ => rfl⟩, rfl⟩
def mJd (h1 : Nat) (u : Nat → Nat) (k : Nat) : Nat := if k = 1 then h1 else u k
def mJs (ub : Nat → Int64) : OS := (xI0, xJ0, fun _ _ => 0, fun k => if k = 46 then ub else fun _ => 0)
/-- the cells of a new reference, in the order of the loop's world -/
def mJw (y : Nat → ClassId) (h1 : Nat) (u : (Nat → Nat) × (Nat → Nat → Int32) × (Nat → Int64)) (c0 : Nat → Int32) : va_W := [(h1, .inr (11, mF u.1 xI0 xJ0)), (u.1 0, .inl (y 2, 700, .inl (fun _ => 0))), (u.1 9, .inl (y 1, 5, .inl (u.2.1 9))), (u.1 10, .inl (y 1, 3, .inl (u.2.1 10))), (u.1 11, .inl (y 1, 3, .inl (u.2.1 11))), (u.1 12, .inl (y 1, 3, .inl (u.2.1 12))), (u.1 13, .inl (y 1, 4, .inl (u.2.1 13))), (u.1 14, .inl (y 1, 2, .inl (u.2.1 14))), (u.1 15, .inl (y 1, 4, .inl (u.2.1 15))), (u.1 16, .inl (y 1, 5, .inl (u.2.1 16))), (u.1 17, .inl (y 1, 3, .inl (u.2.1 17))), (u.1 18, .inl (y 1, 2, .inl (u.2.1 18))), (u.1 19, .inl (y 1, 3, .inl (u.2.1 19))), (u.1 20, .inl (y 1, 3, .inl (u.2.1 20))), (u.1 21, .inl (y 1, 3, .inl (u.2.1 21))), (u.1 22, .inl (y 1, 3, .inl (u.2.1 22))), (u.1 24, .inl (y 2, 10, .inl (fun _ => 0))), (u.1 25, .inl (y 2, 8, .inl (fun _ => 0))), (u.1 26, .inl (y 2, 1400, .inl (fun _ => 0))), (u.1 27, .inl (y 2, 2400, .inl c0)), (u.1 28, .inl (y 2, 2, .inl (fun _ => 0))), (u.1 30, .inl (y 2, 800, .inl (fun _ => 0))), (u.1 34, .inl (y 3, 24, .inr (.inl (fun _ => 0)))), (u.1 35, .inl (y 2, 24, .inl (fun _ => 0))), (u.1 36, .inl (y 2, 8, .inl (fun _ => 0))), (u.1 37, .inl (y 2, 8, .inl (fun _ => 0))), (u.1 38, .inl (y 2, 8, .inl (fun _ => 0))), (u.1 41, .inl (y 2, 700, .inl (fun _ => 0))), (u.1 45, .inl (y 3, 8, .inr (.inl (fun _ => 0)))), (u.1 46, .inl (y 3, 8, .inr (.inl u.2.2))), (u.1 49, .inl (y 2, 41, .inl (fun _ => 0))), (u.1 50, .inl (y 3, 41, .inr (.inl (fun _ => 0)))), (u.1 51, .inl (y 3, 41, .inr (.inl (fun _ => 0)))), (u.1 52, .inl (y 3, 41, .inr (.inl (fun _ => 0)))), (u.1 53, .inl (y 3, 41, .inr (.inl (fun _ => 0)))), (u.1 55, .inl (y 3, 16, .inr (.inl (fun _ => 0)))), (u.1 56, .inl (y 3, 16, .inr (.inl (fun _ => 0)))), (u.1 57, .inl (y 3, 3520, .inr (.inl (fun _ => 0)))), (u.1 58, .inl (y 3, 3520, .inr (.inl (fun _ => 0)))), (u.1 59, .inl (y 2, 3520, .inl (fun _ => 0))), (u.1 60, .inl (y 2, 3520, .inl (fun _ => 0))), (u.1 61, .inl (y 2, 3520, .inl (fun _ => 0))), (u.1 62, .inl (y 2, 2, .inl (fun _ => 0))), (u.1 63, .inl (y 2, 2, .inl (fun _ => 0))), (u.1 64, .inl (y 2, 2, .inl (fun _ => 0))), (u.1 65, .inl (y 2, 24, .inl (fun _ => 0))), (u.1 66, .inl (y 2, 2, .inl (fun _ => 0))), (u.1 67, .inl (y 2, 2, .inl (fun _ => 0))), (u.1 71, .inl (y 2, 84, .inl (fun _ => 0))), (u.1 72, .inl (y 2, 800, .inl (fun _ => 0))), (u.1 74, .inl (y 4, 1760, .inl (fun _ => 0))), (u.1 75, .inl (y 3, 5280, .inr (.inl (fun _ => 0)))), (u.1 76, .inl (y 3, 5280, .inr (.inl (fun _ => 0)))), (u.1 77, .inl (y 3, 1760, .inr (.inl (fun _ => 0)))), (u.1 80, .inl (y 2, 8, .inl (fun _ => 0))), (u.1 81, .inl (y 2, 8, .inl (fun _ => 0))), (u.1 83, .inl (y 2, 1111, .inl (fun _ => 0))), (u.1 84, .inl (y 2, 1111, .inl (fun _ => 0)))]
set_option maxHeartbeats 4000000 in
set_option maxRecDepth 100000 in
theorem m_mWi (y : Nat → ClassId) (h1 : Nat) (u : (Nat → Nat) × (Nat → Nat → Int32) × (Nat → Int64)) : ([0, 57, 56, 55, 54, 53, 52, 51, 50, 49, 48, 47, 46, 45, 44, 43, 42, 41, 40, 39, 38, 37, 36, 35, 34, 33, 32, 31, 30, 29, 28, 27, 26, 25, 24, 23, 22, 21, 20, 19, 18, 17, 16, 15, 14, 13, 12, 11, 10, 9, 8, 7, 6, 5, 4, 3, 2, 1] : List Nat).map (fun i => (mW y h1 u)[i]?) = (mJw y h1 u (fun _ => 0)).map some := rfl
theorem cj_0 : cj (fun _ => 0) (fun _ => 0) = (fun _ => 0) := by
  funext k
  unfold cj
  split <;> rfl
set_option maxHeartbeats 4000000 in
set_option maxRecDepth 100000 in
theorem m_mJw (y : Nat → ClassId) (h1 : Nat) (u : (Nat → Nat) × (Nat → Nat → Int32) × (Nat → Int64)) : mJw y h1 u (fun _ => 0) = mwd y (mJd h1 u.1) u.2.1 (mJs u.2.2) := by
  rw [← cj_0]
  rfl
theorem b_0 (lo hi : Int) (h0 : lo ≤ 0) (h1 : 0 ≤ hi) : bI (fun _ => 0) lo hi := fun _ => ⟨h0, h1⟩
theorem bj_0 (lo hi : Int) (h0 : lo ≤ 0) (h1 : 0 ≤ hi) : bJ (fun _ => 0) lo hi := fun _ => ⟨h0, h1⟩
theorem m_PG0 : PG (fun _ => 0) (fun _ => 0) (fun _ => 0) := by
  refine ⟨by decide, by decide, by decide, by decide, 0, fun i => if i = 0 then some ([], true) else none, rfl, by decide, ⟨true, rfl⟩, fun i T b h => ?_, fun i T b h => absurd h (Nat.not_lt_zero i)⟩
  by_cases hi : i = 0
  · rw [if_pos hi] at h
    cases h
    exact ⟨Nat.zero_le _, Nat.le_of_eq hi⟩
  · rw [if_neg hi] at h
    cases h
theorem m_RI0 (ub : Nat → Int64) (hub : bJ ub 0 1000000000) : RI (mJs ub) :=
  ⟨⟨by decide, by decide⟩, ⟨by decide, by decide, by decide⟩, ⟨by decide, by decide⟩, m_PG0, fun _ h => absurd rfl h, b_0 _ _ (by decide) (by decide), b_0 _ _ (by decide) (by decide), b_0 _ _ (by decide) (by decide), b_0 _ _ (by decide) (by decide), b_0 _ _ (by decide) (by decide), b_0 _ _ (by decide) (by decide), b_0 _ _ (by decide) (by decide), b_0 _ _ (by decide) (by decide), b_0 _ _ (by decide) (by decide), bj_0 _ _ (by decide) (by decide), bj_0 _ _ (by decide) (by decide), bj_0 _ _ (by decide) (by decide), bj_0 _ _ (by decide) (by decide), bj_0 _ _ (by decide) (by decide), hub, bj_0 _ _ (by decide) (by decide), bj_0 _ _ (by decide) (by decide), bj_0 _ _ (by decide) (by decide), bj_0 _ _ (by decide) (by decide), bj_0 _ _ (by decide) (by decide), bj_0 _ _ (by decide) (by decide)⟩
theorem m_RX0 (y : Nat → ClassId) (h1 : Nat) (u : (Nat → Nat) × (Nat → Nat → Int32) × (Nat → Int64)) (hub : bJ u.2.2 0 1000000000) : RX y h1 0 (mwd y (mJd h1 u.1) u.2.1 (mJs u.2.2)) := ⟨_, _, _, rfl, rfl, m_RI0 _ hub, rfl⟩
theorem law_join {D : va_G} {A : Nat → Prop} {y : Nat → ClassId} {H : Heap} {h0 h1 : Nat} {um : (Nat → Nat) × (Nat → Nat → Int32) × (Nat → Int64)} {u : (Nat → Nat) × (Nat → Nat) × (Nat → Nat) × (Nat → Int64)} (hP : va_P D vwCl (mW y h1 um ++ xW y h0 u) H) (hD : va_D A (mW y h1 um ++ xW y h0 u)) (hub : bJ um.2.2 0 1000000000) : ∃ X Y : va_W, CX y h0 0 X ∧ RX y h1 0 Y ∧ va_P D vwCl (X ++ Y) H ∧ va_D A (X ++ Y) := by
  have hP1 := x_mapP _ (m_mWi y h1 um) hP
  have hD1 := x_mapD _ (m_mWi y h1 um) (by decide) hD
  rw [m_mJw] at hP1 hD1
  have hP2 := x_mapP _ (x_xWi y h0 u) (x_wP hP1)
  have hD2 := x_mapD _ (x_xWi y h0 u) (by decide) (x_wD hD1)
  exact ⟨_, _, x_CX0 y h0 u, m_RX0 y h1 um hub, hP2, hD2⟩
