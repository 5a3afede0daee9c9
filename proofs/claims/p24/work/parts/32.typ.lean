/-! code of expressions and tests, by types: true a number, false a fact -/
def tstep (v : Int) (T : List Bool) : Option (List Bool) :=
  if 1000 ≤ v then some (true :: T)
  else if 100 ≤ v ∧ v < 120 then some (true :: T)
  else if 200 ≤ v ∧ v < 204 then (match T with | true :: T0 => some (true :: T0) | _ => none)
  else if 1 ≤ v ∧ v ≤ 6 then (match T with | true :: true :: T0 => some (true :: T0) | _ => none)
  else if v = 7 then (match T with | true :: T0 => some (true :: T0) | _ => none)
  else if 11 ≤ v ∧ v ≤ 13 then (match T with | true :: true :: T0 => some (false :: T0) | _ => none)
  else if 14 ≤ v ∧ v ≤ 15 then (match T with | false :: false :: T0 => some (false :: T0) | _ => none)
  else if v = 16 then (match T with | false :: T0 => some (false :: T0) | _ => none)
  else none
theorem ts_push {v : Int} (h : 1000 ≤ v ∨ (100 ≤ v ∧ v < 120)) (T : List Bool) : tstep v T = some (true :: T) := by
  unfold tstep
  by_cases h1 : 1000 ≤ v
  · rw [if_pos h1]
  · rw [if_neg h1, if_pos (by omega)]
theorem ts_un {v : Int} (h : (200 ≤ v ∧ v < 204) ∨ v = 7) (T : List Bool) : tstep v (true :: T) = some (true :: T) := by
  unfold tstep
  rw [if_neg (by omega), if_neg (by omega)]
  by_cases h1 : 200 ≤ v ∧ v < 204
  · rw [if_pos h1]
  · rw [if_neg h1, if_neg (by omega), if_pos (by omega)]
theorem ts_bin {v : Int} (h : 1 ≤ v ∧ v ≤ 6) (T : List Bool) : tstep v (true :: true :: T) = some (true :: T) := by
  unfold tstep
  rw [if_neg (by omega), if_neg (by omega), if_neg (by omega), if_pos h]
theorem ts_cmp {v : Int} (h : 11 ≤ v ∧ v ≤ 13) (T : List Bool) : tstep v (true :: true :: T) = some (false :: T) := by
  unfold tstep
  rw [if_neg (by omega), if_neg (by omega), if_neg (by omega), if_neg (by omega), if_neg (by omega), if_pos h]
theorem ts_ao {v : Int} (h : 14 ≤ v ∧ v ≤ 15) (T : List Bool) : tstep v (false :: false :: T) = some (false :: T) := by
  unfold tstep
  rw [if_neg (by omega), if_neg (by omega), if_neg (by omega), if_neg (by omega), if_neg (by omega), if_neg (by omega), if_pos h]
theorem ts_not {v : Int} (h : v = 16) (T : List Bool) : tstep v (false :: T) = some (false :: T) := by
  unfold tstep
  rw [if_neg (by omega), if_neg (by omega), if_neg (by omega), if_neg (by omega), if_neg (by omega), if_neg (by omega), if_neg (by omega), if_pos h]
/-- the types behind m words from a on -/
def trun (f : Nat → Int32) (a : Nat) : Nat → List Bool → Option (List Bool)
  | 0, T => some T
  | m + 1, T => (trun f a m T).bind (tstep (f (a + m)).toInt)
theorem trun_congr {f g : Nat → Int32} {a b : Nat} (T : List Bool) : ∀ {m : Nat}, (∀ k, k < m → f (a + k) = g (b + k)) → trun f a m T = trun g b m T
  | 0, _ => rfl
  | m + 1, h => by
    show (trun f a m T).bind (tstep (f (a + m)).toInt) = (trun g b m T).bind (tstep (g (b + m)).toInt)
    rw [trun_congr T (fun k hk => h k (by omega)), h m (by omega)]
theorem trun_add {f : Nat → Int32} {a : Nat} (T : List Bool) (m : Nat) : ∀ n : Nat, trun f a (m + n) T = (trun f a m T).bind (fun T1 => trun f (a + m) n T1)
  | 0 => by
    show trun f a m T = _
    cases trun f a m T <;> rfl
  | n + 1 => by
    show (trun f a (m + n) T).bind (tstep (f (a + (m + n))).toInt) = _
    rw [trun_add T m n]
    cases trun f a m T with
    | none => rfl
    | some T1 =>
      show (trun f (a + m) n T1).bind (tstep (f (a + (m + n))).toInt) = (trun f (a + m) n T1).bind (tstep (f (a + m + n)).toInt)
      rw [Nat.add_assoc]
theorem trun_upd {f : Nat → Int32} {a m k : Nat} {v : Int32} (T : List Bool) (h : a + m ≤ k) : trun (upd f k v) a m T = trun f a m T :=
  trun_congr T (fun j hj => x_upd_ne f v (by omega))
/-- one word more -/
theorem trun_code {f : Nat → Int32} {a c : Nat} {v : Int32} {T T1 T2 : List Bool} (hc : a ≤ c) (h : trun f a (c - a) T = some T1) (hv : tstep v.toInt T1 = some T2) : trun (upd f c v) a (c + 1 - a) T = some T2 := by
  rw [show c + 1 - a = (c - a) + 1 by omega]
  show (trun (upd f c v) a (c - a) T).bind (tstep (upd f c v (a + (c - a))).toInt) = _
  rw [trun_upd T (by omega), h, show a + (c - a) = c by omega, x_upd_same]
  exact hv
/-- a word that waits with a number of its own on the pile -/
def pend (v : Int32) : Bool := decide ((1 ≤ v.toInt ∧ v.toInt ≤ 4) ∨ v.toInt = 23 ∨ v.toInt = 24)
def pd (w : Nat → Int32) (b : Nat) : Nat → Nat
  | 0 => 0
  | m + 1 => pd w b m + (if pend (w (b + m)) = true then 1 else 0)
theorem pd_upd (w : Nat → Int32) (v : Int32) {b k : Nat} : ∀ {m : Nat}, b + m ≤ k → pd (upd w k v) b m = pd w b m
  | 0, _ => rfl
  | m + 1, h => by
    show pd (upd w k v) b m + (if pend (upd w k v (b + m)) = true then 1 else 0) = pd w b m + _
    rw [pd_upd w v (by omega), x_upd_ne w v (by omega)]
theorem pd_top {w : Nat → Int32} {b n : Nat} (h : b < n) : pd w b (n - b) = pd w b (n - 1 - b) + (if pend (w (n - 1)) = true then 1 else 0) := by
  obtain ⟨m, rfl⟩ : ∃ m, n = b + (m + 1) := ⟨n - b - 1, by omega⟩
  rw [show b + (m + 1) - b = m + 1 by omega, show b + (m + 1) - 1 - b = m by omega, show b + (m + 1) - 1 = b + m by omega]
  rfl
/-- the state of a sum: its code from c0 on, what waits from b on -/
def SI (f w : Nat → Int32) (c0 c b n d : Nat) : Prop := c0 ≤ c ∧ b ≤ n ∧ (∀ k, b ≤ k → k < n → ((1 ≤ (w k).toInt ∧ (w k).toInt ≤ 4) ∨ (20 ≤ (w k).toInt ∧ (w k).toInt < 30))) ∧ ∀ T, trun f c0 (c - c0) T = some (List.replicate (pd w b (n - b) + d) true ++ T)
theorem SI_start (f w : Nat → Int32) (c b : Nat) : SI f w c c b b 0 := by
  refine ⟨Nat.le_refl _, Nat.le_refl _, fun k h1 h2 => absurd h2 (by omega), fun T => ?_⟩
  rw [Nat.sub_self, Nat.sub_self]
  rfl
theorem SI_end {f w : Nat → Int32} {c0 c b : Nat} (h : SI f w c0 c b b 1) (T : List Bool) : trun f c0 (c - c0) T = some (true :: T) := by
  have h1 := h.2.2.2 T
  rw [Nat.sub_self] at h1
  exact h1
theorem SI_code {f w : Nat → Int32} {c0 c b n : Nat} {v : Int32} (h : SI f w c0 c b n 0) (hv : 1000 ≤ v.toInt ∨ (100 ≤ v.toInt ∧ v.toInt < 120)) : SI (upd f c v) w c0 (c + 1) b n 1 :=
  ⟨by have := h.1; omega, h.2.1, h.2.2.1, fun T => trun_code h.1 (h.2.2.2 T) (ts_push hv _)⟩
theorem SI_drop {f w : Nat → Int32} {c0 c b n : Nat} (h : SI f w c0 c b n 1) (hb : b < n) (hv : 1 ≤ (w (n - 1)).toInt ∧ (w (n - 1)).toInt ≤ 4) : SI (upd f c (w (n - 1))) w c0 (c + 1) b (n - 1) 1 := by
  refine ⟨by have := h.1; omega, by omega, fun k h1 h2 => h.2.2.1 k h1 (by omega), fun T => trun_code h.1 (h.2.2.2 T) ?_⟩
  rw [pd_top hb, if_pos (by unfold pend; exact decide_eq_true (Or.inl hv))]
  exact ts_bin (by omega) _
theorem SI_push {f w : Nat → Int32} {c0 c b n : Nat} {v : Int32} {d d' : Nat} (h : SI f w c0 c b n d) (hv : (1 ≤ v.toInt ∧ v.toInt ≤ 4) ∨ (20 ≤ v.toInt ∧ v.toInt < 30)) (hd : (if pend v = true then 1 else 0) + d' = d) : SI f (upd w n v) c0 c b (n + 1) d' := by
  have hb := h.2.1
  refine ⟨h.1, by omega, fun k h1 h2 => ?_, fun T => ?_⟩
  · by_cases e : k = n
    · subst e; rw [x_upd_same]; exact hv
    · rw [x_upd_ne w v e]; exact h.2.2.1 k h1 (by omega)
  · rw [h.2.2.2 T, pd_top (w := upd w n v) (show b < n + 1 by omega), show n + 1 - 1 = n by omega, x_upd_same, pd_upd w v (by omega), Nat.add_assoc, hd]
theorem SI_op {f w : Nat → Int32} {c0 c b n : Nat} {v : Int32} (h : SI f w c0 c b n 1) (hv : 1 ≤ v.toInt ∧ v.toInt ≤ 4) : SI f (upd w n v) c0 c b (n + 1) 0 :=
  SI_push h (Or.inl hv) (by rw [if_pos (by unfold pend; exact decide_eq_true (Or.inl hv))])
theorem SI_open {f w : Nat → Int32} {c0 c b n : Nat} {v : Int32} (h : SI f w c0 c b n 0) (hv : 20 ≤ v.toInt ∧ v.toInt < 30 ∧ v.toInt ≠ 23 ∧ v.toInt ≠ 24) : SI f (upd w n v) c0 c b (n + 1) 0 :=
  SI_push h (Or.inr ⟨hv.1, hv.2.1⟩) (by rw [if_neg (by unfold pend; simp only [decide_eq_true_eq]; omega)])
theorem SI_close {f w : Nat → Int32} {c0 c b n : Nat} (h : SI f w c0 c b n 1) (hb : b < n) (hv : (w (n - 1)).toInt = 20) : SI f w c0 c b (n - 1) 1 := by
  refine ⟨h.1, by omega, fun k h1 h2 => h.2.2.1 k h1 (by omega), fun T => ?_⟩
  rw [h.2.2.2 T, pd_top hb, if_neg (by unfold pend; simp only [decide_eq_true_eq]; omega)]
theorem SI_closeU {f w : Nat → Int32} {c0 c b n : Nat} {v : Int32} (h : SI f w c0 c b n 1) (hb : b < n) (hw : 25 ≤ (w (n - 1)).toInt) (hv : (200 ≤ v.toInt ∧ v.toInt < 204) ∨ v.toInt = 7) : SI (upd f c v) w c0 (c + 1) b (n - 1) 1 := by
  refine ⟨by have := h.1; omega, by omega, fun k h1 h2 => h.2.2.1 k h1 (by omega), fun T => trun_code h.1 (h.2.2.2 T) ?_⟩
  rw [pd_top hb, if_neg (by unfold pend; simp only [decide_eq_true_eq]; omega)]
  exact ts_un hv _
theorem SI_closeB {f w : Nat → Int32} {c0 c b n : Nat} {v : Int32} (h : SI f w c0 c b n 1) (hb : b < n) (hw : (w (n - 1)).toInt = 23 ∨ (w (n - 1)).toInt = 24) (hv : 1 ≤ v.toInt ∧ v.toInt ≤ 6) : SI (upd f c v) w c0 (c + 1) b (n - 1) 1 := by
  refine ⟨by have := h.1; omega, by omega, fun k h1 h2 => h.2.2.1 k h1 (by omega), fun T => trun_code h.1 (h.2.2.2 T) ?_⟩
  rw [pd_top hb, if_pos (by unfold pend; exact decide_eq_true (Or.inr hw))]
  exact ts_bin hv _
theorem SI_next {f w : Nat → Int32} {c0 c b n : Nat} {v : Int32} (h : SI f w c0 c b n 1) (hb : b < n) (hw : (w (n - 1)).toInt = 21 ∨ (w (n - 1)).toInt = 22) (hv : v.toInt = 23 ∨ v.toInt = 24) : SI f (upd w (n - 1) v) c0 c b n 0 := by
  refine ⟨h.1, h.2.1, fun k h1 h2 => ?_, fun T => ?_⟩
  · by_cases e : k = n - 1
    · subst e; rw [x_upd_same]; omega
    · rw [x_upd_ne w v e]; exact h.2.2.1 k h1 h2
  · rw [h.2.2.2 T, pd_top hb, pd_top (w := upd w (n - 1) v) hb, x_upd_same, pd_upd w v (by omega), if_neg (by unfold pend; simp only [decide_eq_true_eq]; omega), if_pos (by unfold pend; exact decide_eq_true (Or.inr hv))]
/-- how many of what waits are open -/
def opn (v : Int32) : Bool := decide ((20 ≤ v.toInt ∧ v.toInt ≤ 30) ∨ v.toInt = 16)
def oc (w : Nat → Int32) : Nat → Nat
  | 0 => 0
  | m + 1 => oc w m + (if opn (w m) = true then 1 else 0)
theorem oc_upd (w : Nat → Int32) (v : Int32) {k : Nat} : ∀ {m : Nat}, m ≤ k → oc (upd w k v) m = oc w m
  | 0, _ => rfl
  | m + 1, h => by
    show oc (upd w k v) m + (if opn (upd w k v m) = true then 1 else 0) = oc w m + _
    rw [oc_upd w v (by omega), x_upd_ne w v (by omega)]
theorem oc_top {w : Nat → Int32} {n : Nat} (h : 0 < n) : oc w n = oc w (n - 1) + (if opn (w (n - 1)) = true then 1 else 0) := by
  obtain ⟨m, rfl⟩ : ∃ m, n = m + 1 := ⟨n - 1, by omega⟩
  rfl
