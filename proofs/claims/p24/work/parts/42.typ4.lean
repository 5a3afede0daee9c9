/-- how many and, or wait below n -/
def aoc (w : Nat → Int32) : Nat → Nat
  | 0 => 0
  | m + 1 => aoc w m + (if 14 ≤ (w m).toInt ∧ (w m).toInt ≤ 15 then 1 else 0)
theorem aoc_congr {w w0 : Nat → Int32} : ∀ {n : Nat}, (∀ k, k < n → w k = w0 k) → aoc w n = aoc w0 n
  | 0, _ => rfl
  | m + 1, h => by
    show aoc w m + _ = aoc w0 m + _
    rw [aoc_congr (fun k hk => h k (by omega)), h m (by omega)]
theorem aoc_top {w : Nat → Int32} {n : Nat} (h : 0 < n) : aoc w n = aoc w (n - 1) + (if 14 ≤ (w (n - 1)).toInt ∧ (w (n - 1)).toInt ≤ 15 then 1 else 0) := by
  obtain ⟨m, rfl⟩ : ∃ m, n = m + 1 := ⟨n - 1, by omega⟩
  rfl
theorem upd_low (w : Nat → Int32) (v : Int32) {n : Nat} : ∀ k, k < n → upd w n v k = w k := fun k h => x_upd_ne _ _ (by omega)
/-- the state of a test -/
def TS (f0 f w : Nat → Int32) (c0 c n d : Nat) (X op o0 : Int) : Prop := c0 ≤ c ∧ (∀ k, c0 ≤ k → k < c → (f k).toInt < X) ∧ (∀ k, k < c0 → f k = f0 k) ∧ (∀ k, k < n → ((14 ≤ (w k).toInt ∧ (w k).toInt ≤ 16) ∨ (w k).toInt = 30)) ∧ op = o0 + (oc w n : Int) ∧ ∀ T, trun f c0 (c - c0) T = some (List.replicate (aoc w n + d) false ++ T)
theorem TS_start (f w : Nat → Int32) (c : Nat) (X op : Int) : TS f f w c c 0 0 X op op :=
  ⟨Nat.le_refl _, fun k h1 h2 => absurd h2 (by omega), fun _ _ => rfl, fun k h => absurd h (by omega), by show op = op + ((0 : Nat) : Int); omega, fun T => by rw [Nat.sub_self]; rfl⟩
theorem TS_mono {f0 f w : Nat → Int32} {c0 c n d : Nat} {X X' op o0 : Int} (h : TS f0 f w c0 c n d X op o0) (hx : X ≤ X') : TS f0 f w c0 c n d X' op o0 :=
  ⟨h.1, fun k h1 h2 => Int.lt_of_lt_of_le (h.2.1 k h1 h2) hx, h.2.2⟩
theorem TS_end {f0 f w : Nat → Int32} {c0 c : Nat} {X op o0 : Int} (h : TS f0 f w c0 c 0 1 X op o0) (T : List Bool) : trun f c0 (c - c0) T = some (false :: T) := h.2.2.2.2.2 T
theorem TS_open {f0 f w : Nat → Int32} {c0 c n : Nat} {X op op' o0 : Int} {v : Int32} (h : TS f0 f w c0 c n 0 X op o0) (hv : v.toInt = 30 ∨ v.toInt = 16) (ho : op' = op + 1) : TS f0 f (upd w n v) c0 c (n + 1) 0 X op' o0 := by
  refine ⟨h.1, h.2.1, h.2.2.1, fun k hk => ?_, ?_, fun T => ?_⟩
  · by_cases e : k = n
    · rw [e, x_upd_same]; omega
    · rw [upd_low w v k (by omega)]; exact h.2.2.2.1 k (by omega)
  · show op' = o0 + ((oc (upd w n v) n + (if opn (upd w n v n) = true then 1 else 0) : Nat) : Int)
    rw [x_upd_same, oc_congr (upd_low w v), if_pos (by unfold opn; simp only [decide_eq_true_eq]; omega)]
    have e := h.2.2.2.2.1
    omega
  · rw [h.2.2.2.2.2 T]
    show _ = some (List.replicate (aoc (upd w n v) n + (if 14 ≤ (upd w n v n).toInt ∧ (upd w n v n).toInt ≤ 15 then 1 else 0) + 0) false ++ T)
    rw [x_upd_same, aoc_congr (upd_low w v), if_neg (by omega)]
theorem TS_push {f0 f w : Nat → Int32} {c0 c n : Nat} {X op o0 : Int} {v : Int32} (h : TS f0 f w c0 c n 1 X op o0) (hv : v.toInt = 14 ∨ v.toInt = 15) : TS f0 f (upd w n v) c0 c (n + 1) 0 X op o0 := by
  refine ⟨h.1, h.2.1, h.2.2.1, fun k hk => ?_, ?_, fun T => ?_⟩
  · by_cases e : k = n
    · rw [e, x_upd_same]; omega
    · rw [upd_low w v k (by omega)]; exact h.2.2.2.1 k (by omega)
  · show op = o0 + ((oc (upd w n v) n + (if opn (upd w n v n) = true then 1 else 0) : Nat) : Int)
    rw [x_upd_same, oc_congr (upd_low w v), if_neg (by unfold opn; simp only [decide_eq_true_eq]; omega)]
    exact h.2.2.2.2.1
  · rw [h.2.2.2.2.2 T]
    show _ = some (List.replicate (aoc (upd w n v) n + (if 14 ≤ (upd w n v n).toInt ∧ (upd w n v n).toInt ≤ 15 then 1 else 0) + 0) false ++ T)
    rw [x_upd_same, aoc_congr (upd_low w v), if_pos (by omega)]
theorem TS_close {f0 f w : Nat → Int32} {c0 c n : Nat} {X op op' o0 : Int} (h : TS f0 f w c0 c n 1 X op o0) (hn : 0 < n) (hv : (w (n - 1)).toInt = 30) (ho : op' = op - 1) : TS f0 f w c0 c (n - 1) 1 X op' o0 := by
  refine ⟨h.1, h.2.1, h.2.2.1, fun k hk => h.2.2.2.1 k (by omega), ?_, fun T => ?_⟩
  · have e := h.2.2.2.2.1
    rw [oc_top hn, if_pos (by unfold opn; simp only [decide_eq_true_eq]; omega)] at e
    omega
  · rw [h.2.2.2.2.2 T, aoc_top hn, if_neg (by omega)]
theorem TS_not {f0 f w : Nat → Int32} {c0 c n : Nat} {X op op' o0 : Int} (h : TS f0 f w c0 c n 1 X op o0) (hn : 0 < n) (hv : (w (n - 1)).toInt = 16) (ho : op' = op - 1) (hx : 1000 ≤ X) : TS f0 (upd f c (w (n - 1))) w c0 (c + 1) (n - 1) 1 X op' o0 := by
  refine ⟨Nat.le_succ_of_le h.1, nb_upd h.2.1 (by omega), fr_upd h.1 h.2.2.1, fun k hk => h.2.2.2.1 k (by omega), ?_, fun T => trun_code h.1 (h.2.2.2.2.2 T) ?_⟩
  · have e := h.2.2.2.2.1
    rw [oc_top hn, if_pos (by unfold opn; simp only [decide_eq_true_eq]; omega)] at e
    omega
  · rw [aoc_top hn, if_neg (by omega)]
    exact ts_not hv _
theorem TS_ao {f0 f w : Nat → Int32} {c0 c n : Nat} {X op o0 : Int} (h : TS f0 f w c0 c n 1 X op o0) (hn : 0 < n) (hv : 14 ≤ (w (n - 1)).toInt ∧ (w (n - 1)).toInt ≤ 15) (hx : 1000 ≤ X) : TS f0 (upd f c (w (n - 1))) w c0 (c + 1) (n - 1) 1 X op o0 := by
  refine ⟨Nat.le_succ_of_le h.1, nb_upd h.2.1 (by omega), fr_upd h.1 h.2.2.1, fun k hk => h.2.2.2.1 k (by omega), ?_, fun T => trun_code h.1 (h.2.2.2.2.2 T) ?_⟩
  · have e := h.2.2.2.2.1
    rw [oc_top hn, if_neg (by unfold opn; simp only [decide_eq_true_eq]; omega)] at e
    exact e
  · rw [aoc_top hn, if_pos hv]
    exact ts_ao hv _
theorem TS_fact {f0 f f' w w' : Nat → Int32} {c0 c c' n : Nat} {X X' op o0 : Int} (h : TS f0 f w c0 c n 0 X op o0) (h2 : PC f f' w w' c c' n X' [false]) (hx : X ≤ X') : TS f0 f' w' c0 c' n 1 X' op o0 := by
  have a1 := h.1
  have a2 := h2.1
  refine ⟨by omega, fun k k1 k2 => ?_, fun k k1 => (h2.2.2.1 k (by omega)).trans (h.2.2.1 k k1), fun k hk => by rw [h2.2.2.2.1 k hk]; exact h.2.2.2.1 k hk, by rw [oc_congr h2.2.2.2.1]; exact h.2.2.2.2.1, fun T => ?_⟩
  · by_cases e : k < c
    · rw [h2.2.2.1 k e]; exact Int.lt_of_lt_of_le (h.2.1 k k1 e) hx
    · exact h2.2.1 k (by omega) k2
  · rw [show c' - c0 = (c - c0) + (c' - c) by omega, trun_add]
    rw [trun_congr (g := f) (b := c0) T (fun k hk => h2.2.2.1 (c0 + k) (by omega)), h.2.2.2.2.2 T]
    show trun f' (c0 + (c - c0)) (c' - c) _ = _
    rw [show c0 + (c - c0) = c by omega, h2.2.2.2.2, aoc_congr h2.2.2.2.1]
    rfl
