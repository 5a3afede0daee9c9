theorem x_co {α : Type} {a b : α} {l m : List α} (h : a = b) (h2 : l = m) : a :: l = b :: m := by rw [h, h2]
theorem x_rf {q r : Nat} (h : q = r) : Value.ref q = Value.ref r := by rw [h]
theorem x_oc {a n : Nat} {f g : List Value} (h : f = g) : ((a, .inr (n, f)) : Nat × va_E) = (a, .inr (n, g)) := by rw [h]
theorem x_cI {c : ClassId} {N q r : Nat} {f g : Nat → Int32} (h : q = r) (h2 : f = g) : ((q, .inl (c, N, .inl f)) : Nat × va_E) = (r, .inl (c, N, .inl g)) := by rw [h, h2]
theorem x_cJ {c : ClassId} {N q r : Nat} {f g : Nat → Int64} (h : q = r) (h2 : f = g) : ((q, .inl (c, N, .inr (.inl f))) : Nat × va_E) = (r, .inl (c, N, .inr (.inl g))) := by rw [h, h2]
theorem x_trP {D : va_G} {ws ws' : va_W} {H : Heap} (h : va_P D vwCl ws H) (e : ws = ws') : va_P D vwCl ws' H := e ▸ h
theorem x_trD {A : Nat → Prop} {ws ws' : va_W} (h : va_D A ws) (e : ws = ws') : va_D A ws' := e ▸ h
theorem x_vretW {p : Program} {l : Launch} {e : Env} {R : Room} {s : State} {m : MethodId} {args : Array Value} {below : List Frame} {meth : Method} {c : Code} {H : Heap} {locs : List Loc} {cells slots : Nat} {Q : State → Prop} {cc : ByteArray} {pc : Nat} {ls : Array Slot} {D : va_G} {A : Nat → Prop} {tys : List (ClassId × FieldType)} {S : Type} {post : S → Prop} {w1 : S → va_W} {u : S} (hx : p.tables.exec = Jvm.exec) (hb : c.code = cc) (hr : meth.sig.returnType = none) (hQ : Q = MQ below (va_Qv post (fun u => xB D tys A (w1 u)) A) args s cells slots A) (hpost : post u) (hP : va_P D vwCl (w1 u) H) (hD : va_D A (w1 u)) (hK : va_K D vwCl tys s) (hS : va_S A s.heap H locs)
    (hdg : decode cc pc = .ok (.return_, 1)) (hlocks : meth.locks = false) : W p l e R s m args below meth c H locs cells slots Q (F0 m pc ls []) := by
  rw [hQ]
  exact W.vret hx hb hr (fun t ht hW => ⟨⟨u, rfl, hpost, by rw [ht]; exact hP, va_K.moved hW.alike hK, hD⟩, hS.F ht⟩) hS.2.2 hdg hlocks
/-! worlds that are one definition, with their state in four functions -/
abbrev OS : Type := (Nat → Int32) × (Nat → Int64) × (Nat → Nat → Int32) × (Nat → Nat → Int64)
/-- all entries lie between two numbers -/
def bI (f : Nat → Int32) (lo hi : Int) : Prop := ∀ i, lo ≤ (f i).toInt ∧ (f i).toInt ≤ hi
def bJ (f : Nat → Int64) (lo hi : Int) : Prop := ∀ i, lo ≤ (f i).toInt ∧ (f i).toInt ≤ hi
def sI (σ : OS) (k : Nat) (v : Int32) : OS := (fun j => if j = k then v else σ.1 j, σ.2)
def sJ (σ : OS) (k : Nat) (v : Int64) : OS := (σ.1, fun j => if j = k then v else σ.2.1 j, σ.2.2)
def tI (σ : OS) (k : Nat) (f : Nat → Int32) : OS := (σ.1, σ.2.1, fun j => if j = k then f else σ.2.2.1 j, σ.2.2.2)
def tJ (σ : OS) (k : Nat) (f : Nat → Int64) : OS := (σ.1, σ.2.1, σ.2.2.1, fun j => if j = k then f else σ.2.2.2 j)
theorem b_at {f : Nat → Int32} {lo hi : Int} (h : bI f lo hi) {x : Int32} {i : Nat} (e : x = f i) : lo ≤ x.toInt ∧ x.toInt ≤ hi := e ▸ h i
theorem b_atJ {f : Nat → Int64} {lo hi : Int} (h : bJ f lo hi) {x : Int64} {i : Nat} (e : x = f i) : lo ≤ x.toInt ∧ x.toInt ≤ hi := e ▸ h i
theorem b_upd {f : Nat → Int32} {lo hi : Int} (h : bI f lo hi) {x : Int32} {i : Nat} (h1 : lo ≤ x.toInt) (h2 : x.toInt ≤ hi) : bI (upd f i x) lo hi := fun j => by
  unfold upd
  split
  · exact ⟨h1, h2⟩
  · exact h j
theorem b_updJ {f : Nat → Int64} {lo hi : Int} (h : bJ f lo hi) {x : Int64} {i : Nat} (h1 : lo ≤ x.toInt) (h2 : x.toInt ≤ hi) : bJ (vp_updL f i x) lo hi := fun j => by
  unfold vp_updL
  split
  · exact ⟨h1, h2⟩
  · exact h j
theorem x_01 {v : Int32} (h : v.toInt = 0 ∨ v.toInt = 1) : narrow .boolean (.int v) = .int v := by
  rcases h with h | h
  · have e : v = 0 := Int32.toInt_inj.mp (by rw [h]; rfl)
    rw [e]; rfl
  · have e : v = 1 := Int32.toInt_inj.mp (by rw [h]; rfl)
    rw [e]; rfl
theorem x_nilP (D : va_G) (H : Heap) : va_P D vwCl [] H := fun k q h => by simp at h
theorem x_nilD (A : Nat → Prop) : va_D A [] := ⟨fun i j p q h => by simp at h, fun k q h => by simp at h⟩
theorem x_tri (x y : Int64) : (lg_cmp x y = -1 ∧ x.toInt < y.toInt) ∨ (lg_cmp x y = 0 ∧ x.toInt = y.toInt) ∨ (lg_cmp x y = 1 ∧ x.toInt > y.toInt) := by
  unfold lg_cmp
  by_cases h1 : x > y
  · right; right
    exact ⟨by rw [if_pos h1], Int64.lt_iff_toInt_lt.mp h1⟩
  · have h2 : ¬ y.toInt < x.toInt := fun h => h1 (Int64.lt_iff_toInt_lt.mpr h)
    by_cases h3 : x = y
    · right; left
      exact ⟨by rw [if_neg h1, if_pos h3], by rw [h3]⟩
    · left
      have h4 : x.toInt ≠ y.toInt := fun h => h3 (Int64.toInt_inj.mp h)
      exact ⟨by rw [if_neg h1, if_neg h3], by omega⟩
section XO
variable {p : Program} {l : Launch} {e : Env} {R : Room} {s : State} {m : MethodId} {args : Array Value} {below : List Frame} {meth : Method} {c : Code} {H : Heap} {locs : List Loc} {cells slots : Nat} {Q : State → Prop}
variable {cc : ByteArray} {pc : Nat} {ls : Array Slot} {rest : List Value} {D : va_G} {A : Nat → Prop} {tys : List (ClassId × FieldType)} {ws : va_W} {H0 : Heap}
theorem x_freeW (hD : va_D A ws) (hS : va_S A H0 H locs) (hA : ∀ q, H0.size ≤ q → A q) : ∀ q, va_A ws H.size q → A q := by
  intro q h
  rcases h with ⟨k, e, h⟩ | h
  · exact hD.2 k (q, e) h
  · exact hA q (Nat.le_trans hS.1 h)
theorem x_calliW {S : Type} {post : Int32 → S → Prop} {w1 : S → va_W} {mc ms : Nat} {st0 : List Value} {a : Array Value}
    (hr : va_Run p l e R s m args below meth c H locs cells slots mc ms (F0 m pc ls st0) rest (va_Qi post (fun u => xB D tys (va_A ws H.size) (w1 u)) (va_A ws H.size) a) (va_A ws H.size))
    (hP : va_P D vwCl ws H) (hD : va_D A ws) (hS : va_S A H0 H locs) (hA : ∀ q, H0.size ≤ q → A q)
    (kk : ∀ (r : Int32) (u : S) (H1 : Heap) (locs1 : List Loc), post r u → va_P D vwCl (w1 u) H1 → va_D A (w1 u) → va_S A H0 H1 locs1 → W p l e R s m args below meth c H1 locs1 (cells + mc) (slots + ms) Q (F0 m (pc + 3) ls (.int r :: rest))) : W p l e R s m args below meth c H locs cells slots Q (F0 m pc ls st0) := by
  have hFc := x_freeW hD hS hA
  refine va_calli hr hS (fun q _ h => hFc q h) hFc (fun r u t H1 locs1 ht hvm hw hB hz1 hk1 hS1 => ?_)
  obtain ⟨hP1, hK1, hD1⟩ := hB
  rw [ht] at hP1
  exact kk r u H1 locs1 hw hP1 (hD1.weaken (fun _ q _ h => hFc q.1 h)) hS1
theorem x_calliN {S : Type} {post : Int32 → S → Prop} {w1 : S → va_W} {mc ms : Nat} {st0 : List Value} {a : Array Value}
    (hr : va_Run p l e R s m args below meth c H locs cells slots mc ms (F0 m pc ls st0) rest (va_Qi post (fun u => xB D tys (va_A [] H.size) (w1 u)) (va_A [] H.size) a) (va_A [] H.size))
    (hP : va_P D vwCl ws H) (hD : va_D A ws) (hS : va_S A H0 H locs) (hA : ∀ q, H0.size ≤ q → A q)
    (kk : ∀ (r : Int32) (u : S) (H1 : Heap) (locs1 : List Loc), post r u → va_P D vwCl ws H1 → va_D A ws → va_S A H0 H1 locs1 → W p l e R s m args below meth c H1 locs1 (cells + mc) (slots + ms) Q (F0 m (pc + 3) ls (.int r :: rest))) : W p l e R s m args below meth c H locs cells slots Q (F0 m pc ls st0) := by
  have hFc := x_freeW (x_nilD A) hS hA
  refine va_calli hr hS (fun q _ h => hFc q h) hFc (fun r u t H1 locs1 ht hvm hw hB hz1 hk1 hS1 => ?_)
  refine kk r u H1 locs1 hw (hP.kept (fun k x hx => hk1 x.1 ((hP k x hx).lt) (fun h => ?_))) hD hS1
  rcases h with ⟨k2, e2, h⟩ | h
  · simp at h
  · exact absurd ((hP k x hx).lt) (Nat.not_lt.mpr h)
theorem x_calllW {S : Type} {post : Int64 → S → Prop} {w1 : S → va_W} {mc ms : Nat} {st0 : List Value} {a : Array Value}
    (hr : va_Run p l e R s m args below meth c H locs cells slots mc ms (F0 m pc ls st0) rest (va_Ql post (fun u => xB D tys (va_A ws H.size) (w1 u)) (va_A ws H.size) a) (va_A ws H.size))
    (hP : va_P D vwCl ws H) (hD : va_D A ws) (hS : va_S A H0 H locs) (hA : ∀ q, H0.size ≤ q → A q)
    (kk : ∀ (r : Int64) (u : S) (H1 : Heap) (locs1 : List Loc), post r u → va_P D vwCl (w1 u) H1 → va_D A (w1 u) → va_S A H0 H1 locs1 → W p l e R s m args below meth c H1 locs1 (cells + mc) (slots + ms) Q (F0 m (pc + 3) ls (.long r :: rest))) : W p l e R s m args below meth c H locs cells slots Q (F0 m pc ls st0) := by
  have hFc := x_freeW hD hS hA
  refine va_calll hr hS (fun q _ h => hFc q h) hFc (fun r u t H1 locs1 ht hvm hw hB hz1 hk1 hS1 => ?_)
  obtain ⟨hP1, hK1, hD1⟩ := hB
  rw [ht] at hP1
  exact kk r u H1 locs1 hw hP1 (hD1.weaken (fun _ q _ h => hFc q.1 h)) hS1
theorem x_calllN {S : Type} {post : Int64 → S → Prop} {w1 : S → va_W} {mc ms : Nat} {st0 : List Value} {a : Array Value}
    (hr : va_Run p l e R s m args below meth c H locs cells slots mc ms (F0 m pc ls st0) rest (va_Ql post (fun u => xB D tys (va_A [] H.size) (w1 u)) (va_A [] H.size) a) (va_A [] H.size))
    (hP : va_P D vwCl ws H) (hD : va_D A ws) (hS : va_S A H0 H locs) (hA : ∀ q, H0.size ≤ q → A q)
    (kk : ∀ (r : Int64) (u : S) (H1 : Heap) (locs1 : List Loc), post r u → va_P D vwCl ws H1 → va_D A ws → va_S A H0 H1 locs1 → W p l e R s m args below meth c H1 locs1 (cells + mc) (slots + ms) Q (F0 m (pc + 3) ls (.long r :: rest))) : W p l e R s m args below meth c H locs cells slots Q (F0 m pc ls st0) := by
  have hFc := x_freeW (x_nilD A) hS hA
  refine va_calll hr hS (fun q _ h => hFc q h) hFc (fun r u t H1 locs1 ht hvm hw hB hz1 hk1 hS1 => ?_)
  refine kk r u H1 locs1 hw (hP.kept (fun k x hx => hk1 x.1 ((hP k x hx).lt) (fun h => ?_))) hD hS1
  rcases h with ⟨k2, e2, h⟩ | h
  · simp at h
  · exact absurd ((hP k x hx).lt) (Nat.not_lt.mpr h)
theorem x_callvW {S : Type} {post : S → Prop} {w1 : S → va_W} {mc ms : Nat} {st0 : List Value} {a : Array Value}
    (hr : va_Run p l e R s m args below meth c H locs cells slots mc ms (F0 m pc ls st0) rest (va_Qv post (fun u => xB D tys (va_A ws H.size) (w1 u)) (va_A ws H.size) a) (va_A ws H.size))
    (hP : va_P D vwCl ws H) (hD : va_D A ws) (hS : va_S A H0 H locs) (hA : ∀ q, H0.size ≤ q → A q)
    (kk : ∀ (u : S) (H1 : Heap) (locs1 : List Loc), post u → va_P D vwCl (w1 u) H1 → va_D A (w1 u) → va_S A H0 H1 locs1 → W p l e R s m args below meth c H1 locs1 (cells + mc) (slots + ms) Q (F0 m (pc + 3) ls (rest))) : W p l e R s m args below meth c H locs cells slots Q (F0 m pc ls st0) := by
  have hFc := x_freeW hD hS hA
  refine va_callv hr hS (fun q _ h => hFc q h) hFc (fun u t H1 locs1 ht hvm hw hB hz1 hk1 hS1 => ?_)
  obtain ⟨hP1, hK1, hD1⟩ := hB
  rw [ht] at hP1
  exact kk u H1 locs1 hw hP1 (hD1.weaken (fun _ q _ h => hFc q.1 h)) hS1
theorem x_callvN {S : Type} {post : S → Prop} {w1 : S → va_W} {mc ms : Nat} {st0 : List Value} {a : Array Value}
    (hr : va_Run p l e R s m args below meth c H locs cells slots mc ms (F0 m pc ls st0) rest (va_Qv post (fun u => xB D tys (va_A [] H.size) (w1 u)) (va_A [] H.size) a) (va_A [] H.size))
    (hP : va_P D vwCl ws H) (hD : va_D A ws) (hS : va_S A H0 H locs) (hA : ∀ q, H0.size ≤ q → A q)
    (kk : ∀ (u : S) (H1 : Heap) (locs1 : List Loc), post u → va_P D vwCl ws H1 → va_D A ws → va_S A H0 H1 locs1 → W p l e R s m args below meth c H1 locs1 (cells + mc) (slots + ms) Q (F0 m (pc + 3) ls (rest))) : W p l e R s m args below meth c H locs cells slots Q (F0 m pc ls st0) := by
  have hFc := x_freeW (x_nilD A) hS hA
  refine va_callv hr hS (fun q _ h => hFc q h) hFc (fun u t H1 locs1 ht hvm hw hB hz1 hk1 hS1 => ?_)
  refine kk u H1 locs1 hw (hP.kept (fun k x hx => hk1 x.1 ((hP k x hx).lt) (fun h => ?_))) hD hS1
  rcases h with ⟨k2, e2, h⟩ | h
  · simp at h
  · exact absurd ((hP k x hx).lt) (Nat.not_lt.mpr h)
theorem x_iretW {S : Type} {post : Int32 → S → Prop} {w1 : S → va_W} {v : Int32} {u : S} (hx : p.tables.exec = Jvm.exec) (hb : c.code = cc) (hr : meth.sig.returnType = some .int) (hQ : Q = MQ below (va_Qi post (fun u => xB D tys A (w1 u)) A) args s cells slots A) (hpost : post v u) (hP : va_P D vwCl (w1 u) H) (hD : va_D A (w1 u)) (hK : va_K D vwCl tys s) (hS : va_S A s.heap H locs)
    (hdg : decode cc pc = .ok (.ireturn, 1)) (hlocks : meth.locks = false) : W p l e R s m args below meth c H locs cells slots Q (F0 m pc ls [.int v]) := by
  rw [hQ]
  exact W.iret hx hb hr (fun t ht hW => ⟨⟨v, u, rfl, hpost, by rw [ht]; exact hP, va_K.moved hW.alike hK, hD⟩, hS.F ht⟩) hS.2.2 hdg hlocks
theorem x_lretW {S : Type} {post : Int64 → S → Prop} {w1 : S → va_W} {v : Int64} {u : S} (hx : p.tables.exec = Jvm.exec) (hb : c.code = cc) (hr : meth.sig.returnType = some .long) (hQ : Q = MQ below (va_Ql post (fun u => xB D tys A (w1 u)) A) args s cells slots A) (hpost : post v u) (hP : va_P D vwCl (w1 u) H) (hD : va_D A (w1 u)) (hK : va_K D vwCl tys s) (hS : va_S A s.heap H locs)
    (hdg : decode cc pc = .ok (.lreturn, 1)) (hlocks : meth.locks = false) : W p l e R s m args below meth c H locs cells slots Q (F0 m pc ls [.long v]) := by
  rw [hQ]
  exact W.lret hx hb hr (fun t ht hW => ⟨⟨v, u, rfl, hpost, by rw [ht]; exact hP, va_K.moved hW.alike hK, hD⟩, hS.F ht⟩) hS.2.2 hdg hlocks
theorem x_zretW {S : Type} {post : Int32 → S → Prop} {w1 : S → va_W} {v : Int32} {u : S} {ty : FieldType} (hx : p.tables.exec = Jvm.exec) (hb : c.code = cc) (hr : meth.sig.returnType = some ty) (hQ : Q = MQ below (va_Qi post (fun u => xB D tys A (w1 u)) A) args s cells slots A) (hn : narrow ty (.int v) = .int v) (hpost : post v u) (hP : va_P D vwCl (w1 u) H) (hD : va_D A (w1 u)) (hK : va_K D vwCl tys s) (hS : va_S A s.heap H locs)
    (hdg : decode cc pc = .ok (.ireturn, 1)) (hlocks : meth.locks = false) : W p l e R s m args below meth c H locs cells slots Q (F0 m pc ls [.int v]) := by
  rw [hQ]
  exact W.zret hx hb hr hn (fun t ht hW => ⟨⟨v, u, rfl, hpost, by rw [ht]; exact hP, va_K.moved hW.alike hK, hD⟩, hS.F ht⟩) hS.2.2 hdg hlocks
end XO
