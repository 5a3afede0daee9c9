/-! calls with a part of the world -/
theorem x_subg {big sub : va_W} {is : List Nat} (e1 : is.map (fun i => big[i]?) = sub.map some) {j : Nat} {q : Nat × va_E} (h : sub[j]? = some q) : ∃ i, is[j]? = some i ∧ big[i]? = some q := by
  have h1 : (is.map (fun i => big[i]?))[j]? = some (some q) := by rw [e1, List.getElem?_map, h]; rfl
  rw [List.getElem?_map] at h1
  cases e : is[j]? with
  | none => rw [e] at h1; cases h1
  | some i => rw [e] at h1; exact ⟨i, rfl, Option.some.inj h1⟩
theorem x_suP {D : va_G} {big sub : va_W} {H : Heap} (hP : va_P D vwCl big H) (is : List Nat) (e1 : is.map (fun i => big[i]?) = sub.map some) : va_P D vwCl sub H := fun k q hk => by
  obtain ⟨i, _, h2⟩ := x_subg e1 hk
  exact hP i q h2
theorem x_suD {A : Nat → Prop} {big sub : va_W} (hD : va_D A big) (is : List Nat) (e1 : is.map (fun i => big[i]?) = sub.map some) (hn : is.Nodup) : va_D A sub := by
  refine ⟨fun i j p q hp hq e => ?_, fun k q hk => ?_⟩
  · obtain ⟨i1, a1, a2⟩ := x_subg e1 hp
    obtain ⟨j1, b1, b2⟩ := x_subg e1 hq
    have e2 := hD.1 i1 j1 p q a2 b2 e
    subst e2
    have hi := (List.getElem?_eq_some_iff.mp a1)
    have hj := (List.getElem?_eq_some_iff.mp b1)
    obtain ⟨hi1, hi2⟩ := hi
    obtain ⟨hj1, hj2⟩ := hj
    exact (List.getElem_inj hn).mp (hi2.trans hj2.symm)
  · obtain ⟨i, _, h2⟩ := x_subg e1 hk
    exact hD.2 i q h2
/-- cells put at their places -/
def setAll : va_W → List Nat → va_W → va_W
  | b, i :: is, c :: cs => setAll (b.set i c) is cs
  | b, _, _ => b
theorem setAll_get : ∀ {is : List Nat} {b cs : va_W} {k : Nat} {q : Nat × va_E}, is.length = cs.length → (setAll b is cs)[k]? = some q → (∃ j : Nat, cs[j]? = some q) ∨ (b[k]? = some q ∧ k ∉ is)
  | [], b, [], k, q, _, h => Or.inr ⟨h, by simp⟩
  | i :: is, b, c :: cs, k, q, hl, h => by
    have h1 : (setAll (b.set i c) is cs)[k]? = some q := h
    rcases setAll_get (by simpa using hl) h1 with ⟨j, h2⟩ | ⟨h2, h3⟩
    · exact Or.inl ⟨j + 1, h2⟩
    · rw [List.getElem?_set] at h2
      by_cases e : i = k
      · subst e
        rw [if_pos rfl] at h2
        split at h2
        · cases h2; exact Or.inl ⟨0, rfl⟩
        · cases h2
      · rw [if_neg e] at h2
        exact Or.inr ⟨h2, by simp only [List.mem_cons, not_or]; exact ⟨fun h => e h.symm, h3⟩⟩
theorem x_adrD {A : Nat → Prop} {b b1 : va_W} (hD : va_D A b) (e : b1.map Prod.fst = b.map Prod.fst) : va_D A b1 := by
  have key : ∀ {k : Nat} {q : Nat × va_E}, b1[k]? = some q → ∃ q', b[k]? = some q' ∧ q'.1 = q.1 := by
    intro k q h
    have h1 : (b1.map Prod.fst)[k]? = some q.1 := by rw [List.getElem?_map, h]; rfl
    rw [e, List.getElem?_map] at h1
    cases e2 : b[k]? with
    | none => rw [e2] at h1; cases h1
    | some q' => rw [e2] at h1; exact ⟨q', rfl, Option.some.inj h1⟩
  refine ⟨fun i j p q hp hq h => ?_, fun k q hk => ?_⟩
  · obtain ⟨p', a1, a2⟩ := key hp
    obtain ⟨q', b1, b2⟩ := key hq
    exact hD.1 i j p' q' a1 b1 (by rw [a2, b2, h])
  · obtain ⟨q', a1, a2⟩ := key hk
    rw [← a2]; exact hD.2 k q' a1
section XS
variable {p : Program} {l : Launch} {e : Env} {R : Room} {s : State} {m : MethodId} {args : Array Value} {below : List Frame} {meth : Method} {c : Code} {H : Heap} {locs : List Loc} {cells slots : Nat} {Q : State → Prop}
variable {pc : Nat} {ls : Array Slot} {rest : List Value} {D : va_G} {A : Nat → Prop} {tys : List (ClassId × FieldType)} {H0 : Heap}
theorem x_join {big sub : va_W} {b1 w1 : va_W} {H1 : Heap} (hP : va_P D vwCl big H) (hD : va_D A big) (is : List Nat) (e1 : is.map (fun i => big[i]?) = sub.map some) (e2 : b1 = setAll big is w1) (e4 : is.length = w1.length) (hk1 : ∀ q : Nat, q < H.size → ¬ va_A sub H.size q → H1[q]? = H[q]?) (hP1 : va_P D vwCl w1 H1) : va_P D vwCl b1 H1 := by
  intro k q hk
  rw [e2] at hk
  rcases setAll_get e4 hk with ⟨j, h2⟩ | ⟨h2, h3⟩
  · exact hP1 j q h2
  · refine (hP k q h2).kept (hk1 q.1 (hP k q h2).lt (fun h => ?_))
    rcases h with ⟨j, e9, h4⟩ | h4
    · obtain ⟨i, a1, a2⟩ := x_subg e1 h4
      have e5 := hD.1 i k _ q a2 h2 rfl
      subst e5
      exact h3 (List.mem_of_getElem? a1)
    · exact absurd ((hP k q h2).lt) (Nat.not_lt.mpr h4)
theorem x_calliS {S : Type} {post : Int32 → S → Prop} {w1 b1 : S → va_W} {big sub : va_W} {mc ms : Nat} {st0 : List Value} {a : Array Value} (is : List Nat)
    (hr : va_Run p l e R s m args below meth c H locs cells slots mc ms (F0 m pc ls st0) rest (va_Qi post (fun u => xB D tys (va_A sub H.size) (w1 u)) (va_A sub H.size) a) (va_A sub H.size))
    (hP : va_P D vwCl big H) (hD : va_D A big) (hS : va_S A H0 H locs) (hA : ∀ q, H0.size ≤ q → A q)
    (e1 : is.map (fun i => big[i]?) = sub.map some) (e2 : ∀ u, b1 u = setAll big is (w1 u)) (e3 : ∀ u, (b1 u).map Prod.fst = big.map Prod.fst) (e4 : ∀ u, is.length = (w1 u).length)
    (kk : ∀ (r : Int32) (u : S) (H1 : Heap) (locs1 : List Loc), post r u → va_P D vwCl (b1 u) H1 → va_D A (b1 u) → va_S A H0 H1 locs1 → W p l e R s m args below meth c H1 locs1 (cells + mc) (slots + ms) Q (F0 m (pc + 3) ls (.int r :: rest))) : W p l e R s m args below meth c H locs cells slots Q (F0 m pc ls st0) := by
  have hFc := va_free (wc := sub) hD hS hA is e1
  refine va_calli hr hS (fun q _ h => hFc q h) hFc (fun r u t H1 locs1 ht hvm hw hB hz1 hk1 hS1 => ?_)
  obtain ⟨hP1, hK1, hD1⟩ := hB
  rw [ht] at hP1
  exact kk r u H1 locs1 hw (x_join hP hD is e1 (e2 u) (e4 u) hk1 hP1) (x_adrD hD (e3 u)) hS1
theorem x_calllS {S : Type} {post : Int64 → S → Prop} {w1 b1 : S → va_W} {big sub : va_W} {mc ms : Nat} {st0 : List Value} {a : Array Value} (is : List Nat)
    (hr : va_Run p l e R s m args below meth c H locs cells slots mc ms (F0 m pc ls st0) rest (va_Ql post (fun u => xB D tys (va_A sub H.size) (w1 u)) (va_A sub H.size) a) (va_A sub H.size))
    (hP : va_P D vwCl big H) (hD : va_D A big) (hS : va_S A H0 H locs) (hA : ∀ q, H0.size ≤ q → A q)
    (e1 : is.map (fun i => big[i]?) = sub.map some) (e2 : ∀ u, b1 u = setAll big is (w1 u)) (e3 : ∀ u, (b1 u).map Prod.fst = big.map Prod.fst) (e4 : ∀ u, is.length = (w1 u).length)
    (kk : ∀ (r : Int64) (u : S) (H1 : Heap) (locs1 : List Loc), post r u → va_P D vwCl (b1 u) H1 → va_D A (b1 u) → va_S A H0 H1 locs1 → W p l e R s m args below meth c H1 locs1 (cells + mc) (slots + ms) Q (F0 m (pc + 3) ls (.long r :: rest))) : W p l e R s m args below meth c H locs cells slots Q (F0 m pc ls st0) := by
  have hFc := va_free (wc := sub) hD hS hA is e1
  refine va_calll hr hS (fun q _ h => hFc q h) hFc (fun r u t H1 locs1 ht hvm hw hB hz1 hk1 hS1 => ?_)
  obtain ⟨hP1, hK1, hD1⟩ := hB
  rw [ht] at hP1
  exact kk r u H1 locs1 hw (x_join hP hD is e1 (e2 u) (e4 u) hk1 hP1) (x_adrD hD (e3 u)) hS1
theorem x_callvS {S : Type} {post : S → Prop} {w1 b1 : S → va_W} {big sub : va_W} {mc ms : Nat} {st0 : List Value} {a : Array Value} (is : List Nat)
    (hr : va_Run p l e R s m args below meth c H locs cells slots mc ms (F0 m pc ls st0) rest (va_Qv post (fun u => xB D tys (va_A sub H.size) (w1 u)) (va_A sub H.size) a) (va_A sub H.size))
    (hP : va_P D vwCl big H) (hD : va_D A big) (hS : va_S A H0 H locs) (hA : ∀ q, H0.size ≤ q → A q)
    (e1 : is.map (fun i => big[i]?) = sub.map some) (e2 : ∀ u, b1 u = setAll big is (w1 u)) (e3 : ∀ u, (b1 u).map Prod.fst = big.map Prod.fst) (e4 : ∀ u, is.length = (w1 u).length)
    (kk : ∀ (u : S) (H1 : Heap) (locs1 : List Loc), post u → va_P D vwCl (b1 u) H1 → va_D A (b1 u) → va_S A H0 H1 locs1 → W p l e R s m args below meth c H1 locs1 (cells + mc) (slots + ms) Q (F0 m (pc + 3) ls (rest))) : W p l e R s m args below meth c H locs cells slots Q (F0 m pc ls st0) := by
  have hFc := va_free (wc := sub) hD hS hA is e1
  refine va_callv hr hS (fun q _ h => hFc q h) hFc (fun u t H1 locs1 ht hvm hw hB hz1 hk1 hS1 => ?_)
  obtain ⟨hP1, hK1, hD1⟩ := hB
  rw [ht] at hP1
  exact kk u H1 locs1 hw (x_join hP hD is e1 (e2 u) (e4 u) hk1 hP1) (x_adrD hD (e3 u)) hS1
end XS
