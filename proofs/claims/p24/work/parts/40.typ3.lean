/-- a finished piece of code from c0 to c: its types laid on any stack, its words under X, nothing ahead of it changed -/
def PC (f0 f w0 w : Nat → Int32) (c0 c b : Nat) (X : Int) (t : List Bool) : Prop := c0 ≤ c ∧ (∀ k, c0 ≤ k → k < c → (f k).toInt < X) ∧ (∀ k, k < c0 → f k = f0 k) ∧ (∀ k, k < b → w k = w0 k) ∧ ∀ T, trun f c0 (c - c0) T = some (t ++ T)
theorem oc_congr {w w0 : Nat → Int32} : ∀ {n : Nat}, (∀ k, k < n → w k = w0 k) → oc w n = oc w0 n
  | 0, _ => rfl
  | m + 1, h => by
    show oc w m + (if opn (w m) = true then 1 else 0) = oc w0 m + (if opn (w0 m) = true then 1 else 0)
    rw [oc_congr (fun k hk => h k (by omega)), h m (by omega)]
theorem PC_start (f w : Nat → Int32) (c b : Nat) (X : Int) : PC f f w w c c b X [] :=
  ⟨Nat.le_refl _, fun k h1 h2 => absurd h2 (by omega), fun _ _ => rfl, fun _ _ => rfl, fun T => by rw [Nat.sub_self]; rfl⟩
theorem PC_ES {f0 f w0 w : Nat → Int32} {c0 c b n : Nat} {X op o0 : Int} (h : ES f0 f w0 w c0 c b n 1 X op o0) (hn : n = b) : PC f0 f w0 w c0 c b X [true] ∧ op = o0 + (oc w0 b : Int) := by
  subst hn
  refine ⟨⟨h.1.1, h.2.1, h.2.2.1, h.2.2.2.1, fun T => SI_end h.1 T⟩, ?_⟩
  rw [← oc_congr h.2.2.2.1]; exact h.2.2.2.2
theorem PC_mono {f0 f w0 w : Nat → Int32} {c0 c b : Nat} {X X' : Int} {t : List Bool} (h : PC f0 f w0 w c0 c b X t) (hx : X ≤ X') : PC f0 f w0 w c0 c b X' t :=
  ⟨h.1, fun k h1 h2 => Int.lt_of_lt_of_le (h.2.1 k h1 h2) hx, h.2.2⟩
theorem PC_seq {f0 f1 f2 w0 w1 w2 : Nat → Int32} {c0 c1 c2 b : Nat} {X1 X2 : Int} {t1 t2 : List Bool} (h1 : PC f0 f1 w0 w1 c0 c1 b X1 t1) (h2 : PC f1 f2 w1 w2 c1 c2 b X2 t2) (hx : X1 ≤ X2) : PC f0 f2 w0 w2 c0 c2 b X2 (t2 ++ t1) := by
  have a1 := h1.1
  have a2 := h2.1
  refine ⟨by omega, fun k k1 k2 => ?_, fun k k1 => (h2.2.2.1 k (by omega)).trans (h1.2.2.1 k k1), fun k k1 => (h2.2.2.2.1 k k1).trans (h1.2.2.2.1 k k1), fun T => ?_⟩
  · by_cases e : k < c1
    · rw [h2.2.2.1 k e]; exact Int.lt_of_lt_of_le (h1.2.1 k k1 e) hx
    · exact h2.2.1 k (by omega) k2
  · rw [show c2 - c0 = (c1 - c0) + (c2 - c1) by omega, trun_add]
    rw [trun_congr (g := f1) (b := c0) T (fun k hk => h2.2.2.1 (c0 + k) (by omega)), h1.2.2.2.2 T]
    show trun f2 (c0 + (c1 - c0)) (c2 - c1) (t1 ++ T) = _
    rw [show c0 + (c1 - c0) = c1 by omega, h2.2.2.2.2, List.append_assoc]
theorem PC_code {f0 f w0 w : Nat → Int32} {c0 c b : Nat} {X : Int} {t t' : List Bool} {v : Int32} (h : PC f0 f w0 w c0 c b X t) (hv : ∀ T, tstep v.toInt (t ++ T) = some (t' ++ T)) (hx : v.toInt < X) : PC f0 (upd f c v) w0 w c0 (c + 1) b X t' :=
  ⟨Nat.le_succ_of_le h.1, nb_upd h.2.1 hx, fr_upd h.1 h.2.2.1, h.2.2.2.1, fun T => trun_code h.1 (h.2.2.2.2 T) (hv T)⟩
theorem PC_cmp {f0 f w0 w : Nat → Int32} {c0 c b : Nat} {X : Int} {v : Int32} (h : PC f0 f w0 w c0 c b X [true, true]) (hv : 11 ≤ v.toInt ∧ v.toInt ≤ 13) (hx : v.toInt < X) : PC f0 (upd f c v) w0 w c0 (c + 1) b X [false] :=
  PC_code h (fun T => ts_cmp hv T) hx
