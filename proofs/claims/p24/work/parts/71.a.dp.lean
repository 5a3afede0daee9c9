/-! KEEPERS, as plain numbers: gg k n is AGAIN of n, k; gf k n is FIRST. -/
/-- the least of c at 1 .. j, and where it is first -/
def gs (c : Nat → Nat) : Nat → Nat × Nat
  | 0 => (1000000, 0)
  | j + 1 => if c (j + 1) < (gs c j).1 then (c (j + 1), j + 1) else gs c j
def gr (prev : Nat → Nat) : Nat → Nat → Nat
  | 0 => fun _ => 0
  | n + 1 => fun x => if x = n + 1 ∧ n ≠ 0 then (gs (fun m => m + gr prev n m + prev (n + 1 - m)) n).1 else gr prev n x
def gg : Nat → Nat → Nat
  | 0 => fun _ => 0
  | 1 => fun n => n * (n - 1) / 2
  | k + 2 => fun n => gr (gg (k + 1)) n n
def gc (k n m : Nat) : Nat := m + gg k m + gg (k - 1) (n - m)
def gf (k n : Nat) : Nat := (gs (gc k n) (n - 1)).2
theorem gs_congr {c c' : Nat → Nat} : ∀ j : Nat, (∀ m, 1 ≤ m → m ≤ j → c m = c' m) → gs c j = gs c' j
  | 0, _ => rfl
  | j + 1, h => by
    have ih := gs_congr j (fun m h1 h2 => h m h1 (by omega))
    have e := h (j + 1) (by omega) (Nat.le_refl _)
    simp only [gs, ih, e]
theorem gs_le {c : Nat → Nat} : ∀ (j m : Nat), 1 ≤ m → m ≤ j → (gs c j).1 ≤ c m
  | 0, m, h1, h2 => by omega
  | j + 1, m, h1, h2 => by
    have ih := gs_le (c := c) j m h1
    simp only [gs]
    by_cases q : c (j + 1) < (gs c j).1
    · rw [if_pos q]
      by_cases e : m = j + 1
      · rw [e]; exact Nat.le_refl _
      · exact Nat.le_of_lt (Nat.lt_of_lt_of_le q (ih (by omega)))
    · rw [if_neg q]
      by_cases e : m = j + 1
      · rw [e]; omega
      · exact ih (by omega)
theorem gs_top {c : Nat → Nat} : ∀ j : Nat, (gs c j).1 ≤ 1000000 ∧ (gs c j).2 ≤ j
  | 0 => ⟨Nat.le_refl _, Nat.le_refl _⟩
  | j + 1 => by
    have ih := gs_top (c := c) j
    simp only [gs]
    by_cases q : c (j + 1) < (gs c j).1
    · rw [if_pos q]; exact ⟨by omega, Nat.le_refl _⟩
    · rw [if_neg q]; exact ⟨ih.1, by omega⟩
theorem gr_keep {prev : Nat → Nat} : ∀ (n x : Nat), x ≤ n → gr prev n x = gr prev x x
  | 0, x, h => by rw [Nat.le_zero.mp h]
  | n + 1, x, h => by
    by_cases e : x = n + 1
    · rw [e]
    · have ih := gr_keep (prev := prev) n x (by omega)
      rw [← ih]
      show (if x = n + 1 ∧ n ≠ 0 then _ else gr prev n x) = gr prev n x
      rw [if_neg (fun q => e q.1)]
theorem gg_1 (k : Nat) : gg (k + 1) 1 = 0 := by
  cases k with
  | zero => rfl
  | succ k => rfl
theorem gg_k (k n : Nat) : gg (k + 2) (n + 2) = (gs (gc (k + 2) (n + 2)) (n + 1)).1 := by
  show gr (gg (k + 1)) (n + 2) (n + 2) = _
  show (if n + 2 = n + 1 + 1 ∧ n + 1 ≠ 0 then (gs (fun m => m + gr (gg (k + 1)) (n + 1) m + gg (k + 1) (n + 1 + 1 - m)) (n + 1)).1 else gr (gg (k + 1)) (n + 1) (n + 2)) = _
  rw [if_pos ⟨rfl, by omega⟩]
  rw [gs_congr (c' := gc (k + 2) (n + 2)) (n + 1) (fun m h1 h2 => by
    show m + gr (gg (k + 1)) (n + 1) m + gg (k + 1) (n + 1 + 1 - m) = m + gg (k + 2) m + gg (k + 2 - 1) (n + 2 - m)
    rw [gr_keep (n + 1) m h2]
    rfl)]
theorem gg_top : ∀ (k n : Nat), n ≤ 100 → gg (k + 1) n ≤ 4950 + k
  | 0, n, h => by
    show n * (n - 1) / 2 ≤ 4950 + 0
    have h1 : n * (n - 1) ≤ 100 * 99 := Nat.mul_le_mul h (by omega)
    omega
  | k + 1, 0, _ => Nat.zero_le _
  | k + 1, 1, _ => by rw [gg_1]; exact Nat.zero_le _
  | k + 1, n + 2, h => by
    rw [gg_k]
    have h1 := gs_le (c := gc (k + 2) (n + 2)) (n + 1) 1 (Nat.le_refl 1) (by omega)
    have h2 : gc (k + 2) (n + 2) 1 = 1 + gg (k + 2) 1 + gg (k + 1) (n + 1) := rfl
    have h3 := gg_top k (n + 1) (by omega)
    rw [gg_1] at h2
    omega
/-- AGAIN at two or more rounds and keepers -/
theorem gg_step {k n : Nat} (hk : 2 ≤ k) (hn : 2 ≤ n) : gg k n = (gs (gc k n) (n - 1)).1 := by
  obtain ⟨k, rfl⟩ : ∃ j, k = j + 2 := ⟨k - 2, by omega⟩
  obtain ⟨n, rfl⟩ : ∃ j, n = j + 2 := ⟨n - 2, by omega⟩
  exact gg_k k n
theorem gg_one {k : Nat} (hk : 1 ≤ k) : gg k 1 = 0 := by
  obtain ⟨k, rfl⟩ : ∃ j, k = j + 1 := ⟨k - 1, by omega⟩
  exact gg_1 k
theorem gg_lt {k n : Nat} (hk1 : 1 ≤ k) (hk : k ≤ 10) (hn : n ≤ 100) : gg k n < 5000 := by
  obtain ⟨k, rfl⟩ : ∃ j, k = j + 1 := ⟨k - 1, by omega⟩
  have := gg_top k n hn
  omega
theorem gc_lt {k n m : Nat} (hk1 : 2 ≤ k) (hk : k ≤ 10) (hn : n ≤ 100) (hm : m < n) : gc k n m < 20000 := by
  have h1 := gg_lt (k := k) (n := m) (by omega) hk (by omega)
  have h2 := gg_lt (k := k - 1) (n := n - m) (by omega) (by omega) (by omega)
  show m + gg k m + gg (k - 1) (n - m) < 20000
  omega
theorem gs_step (c : Nat → Nat) (j : Nat) : gs c (j + 1) = if c (j + 1) < (gs c j).1 then (c (j + 1), j + 1) else gs c j := rfl
/-! the rows of a grid of eleven by a hundred and one -/
def xG (r : Nat → Nat) : Nat → Option Nat := fun i => if i < 11 then some (r i) else none
def xR (y : Nat → ClassId) (r : Nat → Nat) (F : Nat → Nat → Int32) : va_W := (List.range 11).map (fun i => (r i, .inl (y 2, 101, .inl (F i))))
theorem xR_len (y : Nat → ClassId) (r : Nat → Nat) (F : Nat → Nat → Int32) : (xR y r F).length = 11 := by simp [xR]
theorem xR_at (y : Nat → ClassId) (r : Nat → Nat) (F : Nat → Nat → Int32) {k : Nat} (hk : k < 11) : (xR y r F)[k]? = some (r k, .inl (y 2, 101, .inl (F k))) := by
  simp [xR, hk]
theorem xR_set (y : Nat → ClassId) (r : Nat → Nat) (F : Nat → Nat → Int32) (g : Nat → Int32) {k : Nat} (hk : k < 11) : (xR y r F).set k (r k, .inl (y 2, 101, .inl g)) = xR y r (va_up F k g) := by
  apply List.ext_getElem?
  intro i
  by_cases h : i < 11
  · rw [List.getElem?_set, xR_at y r F h, xR_at y r (va_up F k g) h, xR_len]
    by_cases e : k = i
    · subst e
      rw [if_pos rfl, if_pos h, va_up_self]
    · rw [if_neg e, va_up_ne F g (fun q => e q.symm)]
  · rw [List.getElem?_eq_none (by rw [List.length_set, xR_len]; omega), List.getElem?_eq_none (by rw [xR_len]; omega)]
theorem x_at1 {c0 c1 c2 : Nat × va_E} (y : Nat → ClassId) (r1 r2 : Nat → Nat) (F1 F2 : Nat → Nat → Int32) {k : Nat} (hk : k < 11) : ([c0, c1, c2] ++ (xR y r1 F1 ++ xR y r2 F2))[3 + k]? = some (r1 k, .inl (y 2, 101, .inl (F1 k))) := by
  rw [List.getElem?_append_right (by simp), show 3 + k - [c0, c1, c2].length = k by simp, List.getElem?_append_left (by rw [xR_len]; exact hk)]
  exact xR_at y r1 F1 hk
theorem x_at2 {c0 c1 c2 : Nat × va_E} (y : Nat → ClassId) (r1 r2 : Nat → Nat) (F1 F2 : Nat → Nat → Int32) {k : Nat} (hk : k < 11) : ([c0, c1, c2] ++ (xR y r1 F1 ++ xR y r2 F2))[14 + k]? = some (r2 k, .inl (y 2, 101, .inl (F2 k))) := by
  rw [List.getElem?_append_right (by simp; omega), show 14 + k - [c0, c1, c2].length = 11 + k by simp; omega, List.getElem?_append_right (by rw [xR_len]; omega), xR_len, show 11 + k - 11 = k by omega]
  exact xR_at y r2 F2 hk
theorem x_set1 {c0 c1 c2 : Nat × va_E} (y : Nat → ClassId) (r1 r2 : Nat → Nat) (F1 F2 : Nat → Nat → Int32) (g : Nat → Int32) {k : Nat} (hk : k < 11) : ([c0, c1, c2] ++ (xR y r1 F1 ++ xR y r2 F2)).set (3 + k) (r1 k, .inl (y 2, 101, .inl g)) = [c0, c1, c2] ++ (xR y r1 (va_up F1 k g) ++ xR y r2 F2) := by
  rw [List.set_append_right _ _ (by simp), show 3 + k - [c0, c1, c2].length = k by simp, List.set_append_left _ _ (by rw [xR_len]; exact hk), xR_set y r1 F1 g hk]
theorem x_set2 {c0 c1 c2 : Nat × va_E} (y : Nat → ClassId) (r1 r2 : Nat → Nat) (F1 F2 : Nat → Nat → Int32) (g : Nat → Int32) {k : Nat} (hk : k < 11) : ([c0, c1, c2] ++ (xR y r1 F1 ++ xR y r2 F2)).set (14 + k) (r2 k, .inl (y 2, 101, .inl g)) = [c0, c1, c2] ++ (xR y r1 F1 ++ xR y r2 (va_up F2 k g)) := by
  rw [List.set_append_right _ _ (by simp; omega), show 14 + k - [c0, c1, c2].length = 11 + k by simp; omega, List.set_append_right _ _ (by rw [xR_len]; omega), xR_len, show 11 + k - 11 = k by omega, xR_set y r2 F2 g hk]
section XA
variable {p : Program} {l : Launch} {e : Env} {R : Room} {s : State} {m : MethodId} {args : Array Value} {below : List Frame} {meth : Method} {c : Code} {H : Heap} {locs : List Loc} {cells slots : Nat} {Q : State → Prop}
variable {cc : ByteArray} {pc : Nat} {ls : Array Slot} {rest : List Value} {D : va_G} {a : Nat} {tys : List (ClassId × FieldType)} {ws : va_W}
theorem x_ald2 (hexec : p.tables.exec = Jvm.exec) (hb : c.code = cc) (hK : va_K D vwCl tys s) (hP : va_P D vwCl ws H) (q0 t0 : Nat) {cA : ClassId} {ty : FieldType} {r : Nat → Nat} (ha : ws[q0]? = some (a, .inl (cA, 11, .inr (.inr (.inr (.inr (xG r))))))) (ht : tys[t0]? = some (cA, .array ty)) {k : Nat} (hk : k < 11) (hdg : decode cc pc = .ok (.aaload, 1))
    (kk : W p l e R s m args below meth c H locs cells slots Q (F0 m (pc + 1) ls (.ref (r k) :: rest))) : W p l e R s m args below meth c H locs cells slots Q (F0 m pc ls (.int (nI k) :: .ref a :: rest)) := by
  have hin : vp_in (nI k) 11 := vp_in_nI hk (by decide)
  have hcl : (nI k).toNatClampNeg = k := nI_clamp (by omega)
  have hv : va_rf (xG r (nI k).toNatClampNeg) = .ref (r k) := by rw [hcl]; simp [xG, hk, va_rf]
  have hlt : (nI k).toNatClampNeg < 11 := by rw [hcl]; exact hk
  exact W.aald (v := .ref (r k)) (ty := .array ty) hexec hb (hP q0 _ ha) ((hK.2 t0 _ ht).1 11 (fun j => va_rf (xG r j))) rfl (fun q => by cases q) (by show ¬ (nI k < 0 ∨ (arrV _ _ _).slots.size ≤ _); rw [arrV_size]; exact hin) (by show (arrV _ _ _).slots[_]? = _; rw [arrV_read _ _ hlt, hv]) rfl rfl hdg kk
end XA
