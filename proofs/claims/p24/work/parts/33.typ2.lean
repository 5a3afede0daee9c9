/-- the state of a sum with its neighbours: words under X, what stands ahead unchanged, what is open -/
def ES (f0 f w0 w : Nat → Int32) (c0 c b n d : Nat) (X op o0 : Int) : Prop := SI f w c0 c b n d ∧ (∀ k, c0 ≤ k → k < c → (f k).toInt < X) ∧ (∀ k, k < c0 → f k = f0 k) ∧ (∀ k, k < b → w k = w0 k) ∧ op = o0 + (oc w n : Int)
theorem ES_start (f w : Nat → Int32) (c b : Nat) (X op : Int) : ES f f w w c c b b 0 X op (op - (oc w b : Int)) :=
  ⟨SI_start f w c b, fun k h1 h2 => absurd h2 (by omega), fun _ _ => rfl, fun _ _ => rfl, by omega⟩
theorem ES_mono {f0 f w0 w : Nat → Int32} {c0 c b n d : Nat} {X X' op o0 : Int} (h : ES f0 f w0 w c0 c b n d X op o0) (hx : X ≤ X') : ES f0 f w0 w c0 c b n d X' op o0 :=
  ⟨h.1, fun k h1 h2 => Int.lt_of_lt_of_le (h.2.1 k h1 h2) hx, h.2.2⟩
theorem nb_upd {f : Nat → Int32} {c0 c : Nat} {X : Int} {v : Int32} (h : ∀ k, c0 ≤ k → k < c → (f k).toInt < X) (hv : v.toInt < X) : ∀ k, c0 ≤ k → k < c + 1 → (upd f c v k).toInt < X := fun k h1 h2 => by
  by_cases e : k = c
  · subst e; rw [x_upd_same]; exact hv
  · rw [x_upd_ne f v e]; exact h k h1 (by omega)
theorem fr_upd {f f0 : Nat → Int32} {c0 c : Nat} {v : Int32} (hc : c0 ≤ c) (h : ∀ k, k < c0 → f k = f0 k) : ∀ k, k < c0 → upd f c v k = f0 k := fun k hk => by
  rw [x_upd_ne f v (by omega)]; exact h k hk
theorem ES_code {f0 f w0 w : Nat → Int32} {c0 c b n : Nat} {X op o0 : Int} {v : Int32} (h : ES f0 f w0 w c0 c b n 0 X op o0) (hv : 1000 ≤ v.toInt ∨ (100 ≤ v.toInt ∧ v.toInt < 120)) (hx : v.toInt < X) : ES f0 (upd f c v) w0 w c0 (c + 1) b n 1 X op o0 :=
  ⟨SI_code h.1 hv, nb_upd h.2.1 hx, fr_upd h.1.1 h.2.2.1, h.2.2.2.1, h.2.2.2.2⟩
theorem ES_drop {f0 f w0 w : Nat → Int32} {c0 c b n : Nat} {X op o0 : Int} (h : ES f0 f w0 w c0 c b n 1 X op o0) (hb : b < n) (hv : 1 ≤ (w (n - 1)).toInt ∧ (w (n - 1)).toInt ≤ 4) (hx : 5 ≤ X) : ES f0 (upd f c (w (n - 1))) w0 w c0 (c + 1) b (n - 1) 1 X op o0 := by
  refine ⟨SI_drop h.1 hb hv, nb_upd h.2.1 (by omega), fr_upd h.1.1 h.2.2.1, h.2.2.2.1, ?_⟩
  have e := h.2.2.2.2
  rw [oc_top (by omega), if_neg (by unfold opn; simp only [decide_eq_true_eq]; omega)] at e
  exact e
theorem ES_op {f0 f w0 w : Nat → Int32} {c0 c b n : Nat} {X op o0 : Int} {v : Int32} (h : ES f0 f w0 w c0 c b n 1 X op o0) (hv : 1 ≤ v.toInt ∧ v.toInt ≤ 4) : ES f0 f w0 (upd w n v) c0 c b (n + 1) 0 X op o0 := by
  refine ⟨SI_op h.1 hv, h.2.1, h.2.2.1, fr_upd h.1.2.1 h.2.2.2.1, ?_⟩
  rw [oc_top (by omega), show n + 1 - 1 = n by omega, x_upd_same, oc_upd w v (Nat.le_refl _), if_neg (by unfold opn; simp only [decide_eq_true_eq]; omega)]
  exact h.2.2.2.2
theorem ES_open {f0 f w0 w : Nat → Int32} {c0 c b n : Nat} {X op op' o0 : Int} {v : Int32} (h : ES f0 f w0 w c0 c b n 0 X op o0) (hv : 20 ≤ v.toInt ∧ v.toInt < 30 ∧ v.toInt ≠ 23 ∧ v.toInt ≠ 24) (ho : op' = op + 1) : ES f0 f w0 (upd w n v) c0 c b (n + 1) 0 X op' o0 := by
  refine ⟨SI_open h.1 hv, h.2.1, h.2.2.1, fr_upd h.1.2.1 h.2.2.2.1, ?_⟩
  rw [oc_top (by omega), show n + 1 - 1 = n by omega, x_upd_same, oc_upd w v (Nat.le_refl _), if_pos (by unfold opn; simp only [decide_eq_true_eq]; omega)]
  have e := h.2.2.2.2
  omega
theorem es_pop {w : Nat → Int32} {n : Nat} {op op' o0 : Int} (hn : 0 < n) (hw : 20 ≤ (w (n - 1)).toInt ∧ (w (n - 1)).toInt ≤ 30) (e : op = o0 + (oc w n : Int)) (ho : op' = op - 1) : op' = o0 + (oc w (n - 1) : Int) := by
  rw [oc_top hn, if_pos (by unfold opn; simp only [decide_eq_true_eq]; omega)] at e
  omega
theorem ES_close {f0 f w0 w : Nat → Int32} {c0 c b n : Nat} {X op op' o0 : Int} (h : ES f0 f w0 w c0 c b n 1 X op o0) (hb : b < n) (hv : (w (n - 1)).toInt = 20) (ho : op' = op - 1) : ES f0 f w0 w c0 c b (n - 1) 1 X op' o0 :=
  ⟨SI_close h.1 hb hv, h.2.1, h.2.2.1, h.2.2.2.1, es_pop (by omega) (by omega) h.2.2.2.2 ho⟩
theorem ES_closeU {f0 f w0 w : Nat → Int32} {c0 c b n : Nat} {X op op' o0 : Int} {v : Int32} (h : ES f0 f w0 w c0 c b n 1 X op o0) (hb : b < n) (hw : 25 ≤ (w (n - 1)).toInt ∧ (w (n - 1)).toInt < 30) (hv : (200 ≤ v.toInt ∧ v.toInt < 204) ∨ v.toInt = 7) (hx : 1000 ≤ X) (ho : op' = op - 1) : ES f0 (upd f c v) w0 w c0 (c + 1) b (n - 1) 1 X op' o0 :=
  ⟨SI_closeU h.1 hb hw.1 hv, nb_upd h.2.1 (by omega), fr_upd h.1.1 h.2.2.1, h.2.2.2.1, es_pop (by omega) (by omega) h.2.2.2.2 ho⟩
theorem ES_closeB {f0 f w0 w : Nat → Int32} {c0 c b n : Nat} {X op op' o0 : Int} {v : Int32} (h : ES f0 f w0 w c0 c b n 1 X op o0) (hb : b < n) (hw : (w (n - 1)).toInt = 23 ∨ (w (n - 1)).toInt = 24) (hv : 1 ≤ v.toInt ∧ v.toInt ≤ 6) (hx : 1000 ≤ X) (ho : op' = op - 1) : ES f0 (upd f c v) w0 w c0 (c + 1) b (n - 1) 1 X op' o0 :=
  ⟨SI_closeB h.1 hb hw hv, nb_upd h.2.1 (by omega), fr_upd h.1.1 h.2.2.1, h.2.2.2.1, es_pop (by omega) (by omega) h.2.2.2.2 ho⟩
theorem ES_next {f0 f w0 w : Nat → Int32} {c0 c b n : Nat} {X op o0 : Int} {v : Int32} (h : ES f0 f w0 w c0 c b n 1 X op o0) (hb : b < n) (hw : (w (n - 1)).toInt = 21 ∨ (w (n - 1)).toInt = 22) (hv : v.toInt = 23 ∨ v.toInt = 24) : ES f0 f w0 (upd w (n - 1) v) c0 c b n 0 X op o0 := by
  refine ⟨SI_next h.1 hb hw hv, h.2.1, h.2.2.1, fr_upd (by omega) h.2.2.2.1, ?_⟩
  rw [oc_top (by omega), x_upd_same, oc_upd w v (Nat.le_refl _), if_pos (by unfold opn; simp only [decide_eq_true_eq]; omega)]
  have e := h.2.2.2.2
  rw [oc_top (by omega), if_pos (by unfold opn; simp only [decide_eq_true_eq]; omega)] at e
  exact e
/-- no mark waits, or the last one that does -/
def MK (w : Nat → Int32) (b n : Nat) (r : Int) : Prop := (r = -1 ∧ ∀ k, b ≤ k → k < n → ¬ (20 ≤ (w k).toInt ∧ (w k).toInt < 30)) ∨ (∃ k, b ≤ k ∧ k < n ∧ (w k).toInt = r ∧ 20 ≤ r ∧ r < 30 ∧ ∀ j, k < j → j < n → ¬ (20 ≤ (w j).toInt ∧ (w j).toInt < 30))
