/-- a jump that waits for its aim: its sort, where its loop begins, the place of its word -/
def HO (f : Nat → Int32) (c : Nat) (ty : Nat → Option (List Bool × Bool)) (s fr j : Int) : Prop :=
  ∃ i : Nat, j = (i : Int) + 1 ∧ i + 2 ≤ c ∧ ty (i + 1) = none ∧ (∃ b1 : Bool, ty (i + 2) = some ([], b1)) ∧ ((s = 1 ∧ (f i).toInt = 502 ∧ ty i = some ([], true)) ∨ ((s = 0 ∨ s = 2) ∧ (f i).toInt = 501 ∧ ty i = some ([false], true))) ∧ (s = 2 → ∃ t : Nat, fr = (t : Int) ∧ t < i ∧ ty t = some ([], false))
/-- a program that is not yet whole: c words, whose types are ty, jumps Hs that wait, T and b at its end -/
def PW (f : Nat → Int32) (c : Nat) (nk : Int) (Hs : Int → Int → Int → Prop) (ty : Nat → Option (List Bool × Bool)) (T : List Bool) (b : Bool) : Prop :=
  (∃ b0 : Bool, ty 0 = some ([], b0)) ∧ (∀ i T1 b1, ty i = some (T1, b1) → T1.length ≤ i ∧ i ≤ c) ∧ ty c = some (T, b) ∧ (∀ i T1 b1, i < c → ty i = some (T1, b1) → SOK f c nk ty i T1 b1 ∨ ∃ s fr, Hs s fr ((i : Int) + 1)) ∧ ∀ s fr j, Hs s fr j → HO f c ty s fr j
theorem JT_mono {ty ty' : Nat → Option (List Bool × Bool)} {n n' i t : Nat} {b : Bool} {T : List Bool} (h : JT ty n i b T t) (hn : n ≤ n') (hty : ∀ j T1 b1, ty j = some (T1, b1) → ∃ b2 : Bool, (b2 = true → b1 = true) ∧ ty' j = some (T1, b2)) : JT ty' n' i b T t := by
  obtain ⟨h1, b', h2, h3⟩ := h
  obtain ⟨b2, h4, h5⟩ := hty t T b' h2
  refine ⟨by omega, b2, h5, ?_⟩
  rcases h3 with ⟨h6, h7⟩ | ⟨h6, h7⟩
  · exact Or.inl ⟨h6, fun e => h7 (h4 e)⟩
  · refine Or.inr ⟨h6, ?_⟩
    cases b2
    · rfl
    · exact absurd (h4 rfl) (by rw [h7]; decide)
theorem SOK_mono {f f' : Nat → Int32} {n n' i : Nat} {nk nk' : Int} {ty ty' : Nat → Option (List Bool × Bool)} {T : List Bool} {b : Bool} (h : SOK f n nk ty i T b) (hi : i < n) (hf : ∀ k, k < n → f' k = f k) (hn : n ≤ n') (hk : nk ≤ nk') (hty : ∀ j T1 b1, ty j = some (T1, b1) → ∃ b2 : Bool, (b2 = true → b1 = true) ∧ ty' j = some (T1, b2)) : SOK f' n' nk' ty' i T b := by
  have seq : ∀ (j : Nat) (T1 : List Bool), (∃ b1 : Bool, (b1 = true → b = true) ∧ ty j = some (T1, b1)) → ∃ b1 : Bool, (b1 = true → b = true) ∧ ty' j = some (T1, b1) := by
    intro j T1 ⟨b1, h1, h2⟩
    obtain ⟨b2, h3, h4⟩ := hty j T1 b1 h2
    exact ⟨b2, fun e => h1 (h3 e), h4⟩
  unfold SOK at h ⊢
  rw [hf i hi]
  rcases h with ⟨a1, a2, hq⟩ | ⟨a1, a2, hq⟩ | ⟨T0, a1, a2, a3, hq⟩ | ⟨T0, a1, a2, a3, hq⟩ | ⟨T0, a1, a2, a3, hq⟩ | ⟨T0, a1, a3, hq⟩ | ⟨T0, a1, a2, a3, b1, hb1, hq, t, ht, hj⟩ | ⟨a1, a2, t, ht, hj⟩ | ⟨T0, a1, a2, a3, hq⟩ | ⟨T0, a1, a3, hq⟩ | ⟨T0, a1, a2, a3, b9, hq⟩ | ⟨T0, a1, a2, a3, hq⟩ | ⟨T0, a1, a3, hq⟩
  · exact Or.inl ⟨a1, by omega, seq _ _ hq⟩
  · exact Or.inr (Or.inl ⟨a1, a2, seq _ _ hq⟩)
  · exact Or.inr (Or.inr (Or.inl ⟨T0, a1, a2, a3, seq _ _ hq⟩))
  · exact Or.inr (Or.inr (Or.inr (Or.inl ⟨T0, a1, a2, a3, seq _ _ hq⟩)))
  · exact Or.inr (Or.inr (Or.inr (Or.inr (Or.inl ⟨T0, a1, a2, a3, seq _ _ hq⟩))))
  · exact Or.inr (Or.inr (Or.inr (Or.inr (Or.inr (Or.inl ⟨T0, a1, a3, seq _ _ hq⟩)))))
  · obtain ⟨b2, hb2, hq2⟩ := seq _ _ ⟨b1, hb1, hq⟩
    exact Or.inr (Or.inr (Or.inr (Or.inr (Or.inr (Or.inr (Or.inl ⟨T0, a1, by omega, a3, b2, hb2, hq2, t, by rw [hf (i + 1) a2]; exact ht, JT_mono hj hn hty⟩))))))
  · exact Or.inr (Or.inr (Or.inr (Or.inr (Or.inr (Or.inr (Or.inr (Or.inl ⟨a1, by omega, t, by rw [hf (i + 1) a2]; exact ht, JT_mono hj hn hty⟩)))))))
  · exact Or.inr (Or.inr (Or.inr (Or.inr (Or.inr (Or.inr (Or.inr (Or.inr (Or.inl ⟨T0, a1, a2, a3, seq _ _ hq⟩))))))))
  · exact Or.inr (Or.inr (Or.inr (Or.inr (Or.inr (Or.inr (Or.inr (Or.inr (Or.inr (Or.inl ⟨T0, a1, a3, seq _ _ hq⟩)))))))))
  · obtain ⟨b2, _, hq2⟩ := hty _ _ _ hq
    exact Or.inr (Or.inr (Or.inr (Or.inr (Or.inr (Or.inr (Or.inr (Or.inr (Or.inr (Or.inr (Or.inl ⟨T0, a1, a2, a3, b2, hq2⟩))))))))))
  · exact Or.inr (Or.inr (Or.inr (Or.inr (Or.inr (Or.inr (Or.inr (Or.inr (Or.inr (Or.inr (Or.inr (Or.inl ⟨T0, a1, a2, a3, seq _ _ hq⟩)))))))))))
  · exact Or.inr (Or.inr (Or.inr (Or.inr (Or.inr (Or.inr (Or.inr (Or.inr (Or.inr (Or.inr (Or.inr (Or.inr ⟨T0, a1, a3, seq _ _ hq⟩)))))))))))
theorem SOK_at {f f' : Nat → Int32} {n i : Nat} {nk : Int} {ty : Nat → Option (List Bool × Bool)} {T : List Bool} {b : Bool} (h : SOK f n nk ty i T b) (h1 : f' i = f i) (h2 : f' (i + 1) = f (i + 1)) : SOK f' n nk ty i T b := by
  unfold SOK at h ⊢
  rw [h1, h2]
  exact h
/-- a type laid at c -/
def tx (ty : Nat → Option (List Bool × Bool)) (c : Nat) (T : List Bool) (b : Bool) : Nat → Option (List Bool × Bool) := fun j => if j = c then some (T, b) else ty j
theorem tx_same (ty : Nat → Option (List Bool × Bool)) (c : Nat) (T : List Bool) (b : Bool) : tx ty c T b c = some (T, b) := if_pos rfl
theorem tx_ne (ty : Nat → Option (List Bool × Bool)) {c j : Nat} (T : List Bool) (b : Bool) (h : j ≠ c) : tx ty c T b j = ty j := if_neg h
/-- more words behind it -/
theorem PW_gen {f f' : Nat → Int32} {c c' : Nat} {nk nk' : Int} {Hs Hs' : Int → Int → Int → Prop} {ty ty' : Nat → Option (List Bool × Bool)} {T T' : List Bool} {b b' : Bool} (h : PW f c nk Hs ty T b) (hc : c ≤ c') (hf : ∀ k, k < c → f' k = f k) (hk : nk ≤ nk') (h1 : ∀ j, j < c → ty' j = ty j) (h2 : ∃ b2 : Bool, (b2 = true → b = true) ∧ ty' c = some (T, b2)) (h3 : ∀ j T1 b1, c < j → ty' j = some (T1, b1) → T1.length ≤ j ∧ j ≤ c') (h4 : ty' c' = some (T', b')) (hS : ∀ i T1 b1, c ≤ i → i < c' → ty' i = some (T1, b1) → SOK f' c' nk' ty' i T1 b1 ∨ ∃ s fr, Hs' s fr ((i : Int) + 1)) (hH : ∀ s fr j, Hs s fr j → Hs' s fr j) (hN : ∀ s fr j, Hs' s fr j → Hs s fr j ∨ HO f' c' ty' s fr j) : PW f' c' nk' Hs' ty' T' b' := by
  obtain ⟨⟨b0, p1⟩, p2, p3, p4, p5⟩ := h
  obtain ⟨b2, h2a, h2b⟩ := h2
  have hty : ∀ j T1 b1, ty j = some (T1, b1) → ∃ b2 : Bool, (b2 = true → b1 = true) ∧ ty' j = some (T1, b2) := by
    intro j T1 b1 hj
    have hj2 := (p2 j T1 b1 hj).2
    by_cases e : j = c
    · subst e
      rw [p3] at hj
      cases hj
      exact ⟨b2, h2a, h2b⟩
    · exact ⟨b1, id, by rw [h1 j (by omega)]; exact hj⟩
  refine ⟨?_, ?_, h4, ?_, ?_⟩
  · obtain ⟨b3, _, h5⟩ := hty 0 [] b0 p1
    exact ⟨b3, h5⟩
  · intro i T1 b1 hi
    rcases Nat.lt_trichotomy i c with e | e | e
    · rw [h1 i e] at hi
      have := p2 i T1 b1 hi
      omega
    · subst e
      rw [h2b] at hi
      cases hi
      have := p2 i T b p3
      omega
    · exact h3 i T1 b1 e hi
  · intro i T1 b1 hi hi2
    by_cases e : c ≤ i
    · exact hS i T1 b1 e hi hi2
    · rw [h1 i (by omega)] at hi2
      rcases p4 i T1 b1 (by omega) hi2 with h6 | ⟨s, fr, h6⟩
      · exact Or.inl (SOK_mono h6 (by omega) hf hc hk hty)
      · exact Or.inr ⟨s, fr, hH _ _ _ h6⟩
  · intro s fr j hj
    rcases hN s fr j hj with h6 | h6
    · obtain ⟨i, q1, q2, q3, ⟨b3, q4⟩, q5, q6⟩ := p5 s fr j h6
      obtain ⟨b4, _, q7⟩ := hty _ _ _ q4
      refine ⟨i, q1, by omega, by rw [h1 (i + 1) (by omega)]; exact q3, ⟨b4, q7⟩, by rw [hf i (by omega), h1 i (by omega)]; exact q5, fun e => ?_⟩
      obtain ⟨t, t1, t2, t3⟩ := q6 e
      exact ⟨t, t1, t2, by rw [h1 t (by omega)]; exact t3⟩
    · exact h6
/-- a jump gets its aim -/
theorem PW_patch {f : Nat → Int32} {c i : Nat} {nk : Int} {Hs Hs' : Int → Int → Int → Prop} {ty : Nat → Option (List Bool × Bool)} {T : List Bool} {b : Bool} {v : Int32} (h : PW f c nk Hs ty T b) (hi : ty (i + 1) = none) (hS : ∀ T1 b1, ty i = some (T1, b1) → SOK (upd f (i + 1) v) c nk ty i T1 b1) (hsub : ∀ s fr j, Hs' s fr j → Hs s fr j) (hcov : ∀ s fr j, Hs s fr j → j = (i : Int) + 1 ∨ Hs' s fr j) : PW (upd f (i + 1) v) c nk Hs' ty T b := by
  obtain ⟨p1, p2, p3, p4, p5⟩ := h
  refine ⟨p1, p2, p3, ?_, ?_⟩
  · intro k T1 b1 hk hk2
    by_cases e : k = i
    · subst e; exact Or.inl (hS T1 b1 hk2)
    · have e1 : k ≠ i + 1 := fun e2 => by rw [e2, hi] at hk2; cases hk2
      rcases p4 k T1 b1 hk hk2 with h6 | ⟨s, fr, h6⟩
      · exact Or.inl (SOK_at h6 (x_upd_ne _ _ e1) (x_upd_ne _ _ (by omega)))
      · rcases hcov _ _ _ h6 with h7 | h7
        · omega
        · exact Or.inr ⟨s, fr, h7⟩
  · intro s fr j hj
    obtain ⟨k, q1, q2, q3, q4, q5, q6⟩ := p5 s fr j (hsub _ _ _ hj)
    have e1 : k ≠ i + 1 := fun e2 => by
      subst e2
      rcases q5 with ⟨_, _, q7⟩ | ⟨_, _, q7⟩ <;> rw [hi] at q7 <;> cases q7
    exact ⟨k, q1, q2, q3, q4, by rw [x_upd_ne _ _ e1]; exact q5, q6⟩
/-- a waiting jump with its aim at the end -/
theorem HO_aim {f : Nat → Int32} {c i : Nat} {nk : Int} {ty : Nat → Option (List Bool × Bool)} {s fr : Int} {v : Int32} (h : HO f c ty s fr ((i : Int) + 1)) (hc : ty c = some ([], true)) (hv : v.toInt = (c : Int)) : ty (i + 1) = none ∧ ∀ T1 b1, ty i = some (T1, b1) → SOK (upd f (i + 1) v) c nk ty i T1 b1 := by
  obtain ⟨k, q1, q2, q3, ⟨b3, q4⟩, q5, _⟩ := h
  have e : k = i := by omega
  subst e
  refine ⟨q3, fun T1 b1 hk => ?_⟩
  have e1 : (upd f (k + 1) v k) = f k := x_upd_ne _ _ (by omega)
  have e2 : (upd f (k + 1) v (k + 1)) = v := x_upd_same _ _ _
  unfold SOK
  rw [e1, e2]
  rcases q5 with ⟨_, q7, q8⟩ | ⟨_, q7, q8⟩
  · rw [q8] at hk; cases hk
    exact Or.inr (Or.inr (Or.inr (Or.inr (Or.inr (Or.inr (Or.inr (Or.inl ⟨q7, by omega, c, hv, by omega, true, hc, Or.inl ⟨by omega, fun _ => rfl⟩⟩)))))))
  · rw [q8] at hk; cases hk
    exact Or.inr (Or.inr (Or.inr (Or.inr (Or.inr (Or.inr (Or.inl ⟨[], q7, by omega, rfl, b3, fun _ => rfl, q4, c, hv, by omega, true, hc, Or.inl ⟨by omega, fun _ => rfl⟩⟩))))))
theorem tstep_len {v : Int} {T T' : List Bool} (h : tstep v T = some T') : T'.length ≤ T.length + 1 := by
  unfold tstep at h
  repeat' split at h
  all_goals (first | (cases h; done) | (cases h; simp only [List.length_cons]; omega))
theorem tstep_SOK {f : Nat → Int32} {n i : Nat} {nk : Int} {ty : Nat → Option (List Bool × Bool)} {T T' : List Bool} {s : Bool} (h : tstep (f i).toInt T = some T') (hx : (f i).toInt < 1000 + nk) (ht : ty (i + 1) = some (T', s || T'.contains false)) : SOK f n nk ty i T (s || T.contains false) := by
  unfold tstep at h
  unfold SOK
  repeat' split at h
  all_goals (first | (cases h; done) | skip)
  all_goals cases h
  · exact Or.inl ⟨by omega, hx, _, fun e => by simpa using e, ht⟩
  · exact Or.inr (Or.inl ⟨by omega, by omega, _, fun e => by simpa using e, ht⟩)
  · exact Or.inr (Or.inr (Or.inl ⟨_, by omega, by omega, rfl, _, fun e => by simpa using e, ht⟩))
  · exact Or.inr (Or.inr (Or.inr (Or.inr (Or.inr (Or.inr (Or.inr (Or.inr (Or.inl ⟨_, by omega, by omega, rfl, _, fun e => by simpa using e, ht⟩))))))))
  · exact Or.inr (Or.inr (Or.inr (Or.inr (Or.inr (Or.inr (Or.inr (Or.inr (Or.inr (Or.inl ⟨_, by omega, rfl, _, fun e => by simpa using e, ht⟩)))))))))
  · exact Or.inr (Or.inr (Or.inr (Or.inr (Or.inr (Or.inr (Or.inr (Or.inr (Or.inr (Or.inr (Or.inl ⟨_, by omega, by omega, rfl, _, ht⟩))))))))))
  · exact Or.inr (Or.inr (Or.inr (Or.inr (Or.inr (Or.inr (Or.inr (Or.inr (Or.inr (Or.inr (Or.inr (Or.inl ⟨_, by omega, by omega, rfl, _, fun e => by simp, ht⟩)))))))))))
  · exact Or.inr (Or.inr (Or.inr (Or.inr (Or.inr (Or.inr (Or.inr (Or.inr (Or.inr (Or.inr (Or.inr (Or.inr ⟨_, by omega, rfl, _, fun e => by simp, ht⟩)))))))))))
/-- the jumps of the blocks that are open -/
def BH (m : Nat) (bs bf bj : Nat → Int32) : Int → Int → Int → Prop := fun s fr j => ∃ k : Nat, k < m ∧ (bs k).toInt = s ∧ (bf k).toInt = fr ∧ (bj k).toInt = j
theorem BH_congr {m : Nat} {bs bf bj bs' bf' bj' : Nat → Int32} (h : ∀ k, k < m → bs' k = bs k ∧ bf' k = bf k ∧ bj' k = bj k) {s fr j : Int} (hb : BH m bs bf bj s fr j) : BH m bs' bf' bj' s fr j := by
  obtain ⟨k, h1, h2, h3, h4⟩ := hb
  obtain ⟨e1, e2, e3⟩ := h k h1
  exact ⟨k, h1, by rw [e1]; exact h2, by rw [e2]; exact h3, by rw [e3]; exact h4⟩
/-- a program that is not yet whole, and the head of a loop that is to come -/
def PE (f : Nat → Int32) (c : Nat) (nk : Int) (m : Nat) (bs bf bj : Nat → Int32) (T : List Bool) (b : Bool) (fo : Option Nat) : Prop := ∃ ty, PW f c nk (BH m bs bf bj) ty T b ∧ ∀ t, fo = some t → t ≤ c ∧ ty t = some ([], false)
theorem PE_start (f : Nat → Int32) (nk : Int) (bs bf bj : Nat → Int32) : PE f 0 nk 0 bs bf bj [] true none := by
  refine ⟨fun j => if j = 0 then some ([], true) else none, ⟨⟨true, if_pos rfl⟩, ?_, if_pos rfl, fun i _ _ h => absurd h (by omega), fun s fr j ⟨k, h, _⟩ => absurd h (by omega)⟩, fun t h => by cases h⟩
  intro i T1 b1 h
  dsimp only at h
  by_cases e : i = 0
  · subst e
    rw [if_pos rfl] at h
    cases h
    exact ⟨Nat.le_refl _, Nat.le_refl _⟩
  · rw [if_neg e] at h
    cases h
theorem PE_frame {f f' : Nat → Int32} {c m : Nat} {nk nk' : Int} {bs bf bj bs' bf' bj' : Nat → Int32} {T : List Bool} {b : Bool} {fo : Option Nat} (h : PE f c nk m bs bf bj T b fo) (hf : ∀ k, k < c → f' k = f k) (hk : nk ≤ nk') (hb : ∀ k, k < m → bs' k = bs k ∧ bf' k = bf k ∧ bj' k = bj k) : PE f' c nk' m bs' bf' bj' T b fo := by
  obtain ⟨ty, h1, h2⟩ := h
  have h3 := h1.2.1
  refine ⟨ty, PW_gen h1 (Nat.le_refl _) hf hk (fun _ _ => rfl) ⟨b, id, h1.2.2.1⟩ (fun j T1 b1 _ hj => h3 j T1 b1 hj) h1.2.2.1 (fun i _ _ k1 k2 => absurd k2 (by omega)) (fun s fr j => BH_congr hb) (fun s fr j hj => Or.inl (BH_congr (fun k hk => ⟨(hb k hk).1.symm, (hb k hk).2.1.symm, (hb k hk).2.2.symm⟩) hj)), h2⟩
/-- where a loop begins -/
theorem PE_lower {f : Nat → Int32} {c m : Nat} {nk : Int} {bs bf bj : Nat → Int32} {fo : Option Nat} (h : PE f c nk m bs bf bj [] true fo) : PE f c nk m bs bf bj [] false (some c) := by
  obtain ⟨ty, h1, _⟩ := h
  have h3 := h1.2.1
  refine ⟨tx ty c [] false, PW_gen h1 (Nat.le_refl _) (fun _ _ => rfl) (Int.le_refl _) (fun j hj => tx_ne _ _ _ (by omega)) ⟨false, fun _ => rfl, tx_same _ _ _ _⟩ (fun j T1 b1 hj hj2 => ?_) (tx_same _ _ _ _) (fun i _ _ k1 k2 => absurd k2 (by omega)) (fun _ _ _ hj => hj) (fun _ _ _ hj => Or.inl hj), fun t ht => ?_⟩
  · rw [tx_ne _ _ _ (by omega)] at hj2
    exact h3 j T1 b1 hj2
  · cases ht
    exact ⟨Nat.le_refl _, tx_same _ _ _ _⟩
/-- one more word -/
theorem PE_word {f : Nat → Int32} {c m : Nat} {nk : Int} {bs bf bj : Nat → Int32} {T T' : List Bool} {b b' : Bool} {fo : Option Nat} (h : PE f c nk m bs bf bj T b fo) (hl : T'.length ≤ T.length + 1) (hS : ∀ ty : Nat → Option (List Bool × Bool), ty (c + 1) = some (T', b') → SOK f (c + 1) nk ty c T b) : PE f (c + 1) nk m bs bf bj T' b' fo := by
  obtain ⟨ty, h1, h2⟩ := h
  have h3 := h1.2.1
  have h4 := h1.2.2.1
  refine ⟨tx ty (c + 1) T' b', PW_gen h1 (Nat.le_succ _) (fun _ _ => rfl) (Int.le_refl _) (fun j hj => tx_ne _ _ _ (by omega)) ⟨b, id, by rw [tx_ne _ _ _ (by omega)]; exact h4⟩ (fun j T1 b1 hj hj2 => ?_) (tx_same _ _ _ _) (fun i T1 b1 k1 k2 k3 => ?_) (fun _ _ _ hj => hj) (fun _ _ _ hj => Or.inl hj), fun t ht => ?_⟩
  · by_cases e : j = c + 1
    · subst e
      rw [tx_same] at hj2
      cases hj2
      have := (h3 c T b h4).1
      omega
    · rw [tx_ne _ _ _ e] at hj2
      have := h3 j T1 b1 hj2
      omega
  · have e : i = c := by omega
    subst e
    rw [tx_ne _ _ _ (by omega), h4] at k3
    cases k3
    exact Or.inl (hS _ (tx_same _ _ _ _))
  · obtain ⟨t1, t2⟩ := h2 t ht
    exact ⟨by omega, by rw [tx_ne _ _ _ (by omega)]; exact t2⟩
/-- a piece of plain code -/
theorem PE_run {f : Nat → Int32} {c m : Nat} {nk : Int} {bs bf bj : Nat → Int32} {s : Bool} {fo : Option Nat} (h : PE f c nk m bs bf bj [] s fo) : ∀ {k : Nat} {T : List Bool}, trun f c k [] = some T → (∀ j, c ≤ j → j < c + k → (f j).toInt < 1000 + nk) → PE f (c + k) nk m bs bf bj T (s || T.contains false) fo
  | 0, T, ht, _ => by
    cases ht
    simpa using h
  | k + 1, T, ht, hx => by
    have ht2 : (trun f c k []).bind (tstep (f (c + k)).toInt) = some T := ht
    cases e : trun f c k [] with
    | none => rw [e] at ht2; cases ht2
    | some T1 =>
      rw [e] at ht2
      have ht3 : tstep (f (c + k)).toInt T1 = some T := ht2
      exact PE_word (PE_run h e (fun j h1 h2 => hx j h1 (by omega))) (tstep_len ht3) (fun ty h9 => tstep_SOK ht3 (hx (c + k) (by omega) (by omega)) h9)
theorem PE_set {f : Nat → Int32} {c m : Nat} {nk : Int} {bs bf bj : Nat → Int32} {b : Bool} {fo : Option Nat} (h : PE f c nk m bs bf bj [true] b fo) (hv : (300 ≤ (f c).toInt ∧ (f c).toInt < 320) ∨ (f c).toInt = 500) : PE f (c + 1) nk m bs bf bj [] b fo :=
  PE_word h (by simp) (fun ty h9 => by
    unfold SOK
    rcases hv with hv | hv
    · exact Or.inr (Or.inr (Or.inr (Or.inl ⟨[], hv.1, hv.2, rfl, b, id, h9⟩)))
    · exact Or.inr (Or.inr (Or.inr (Or.inr (Or.inr (Or.inl ⟨[], hv, rfl, b, id, h9⟩))))))
theorem PE_setrow {f : Nat → Int32} {c m : Nat} {nk : Int} {bs bf bj : Nat → Int32} {b : Bool} {fo : Option Nat} (h : PE f c nk m bs bf bj [true, true] b fo) (hv : 400 ≤ (f c).toInt ∧ (f c).toInt < 404) : PE f (c + 1) nk m bs bf bj [] b fo :=
  PE_word h (by simp) (fun ty h9 => by
    unfold SOK
    exact Or.inr (Or.inr (Or.inr (Or.inr (Or.inl ⟨[], hv.1, hv.2, rfl, b, id, h9⟩)))))
/-- a block opens behind a test -/
theorem PE_block {f : Nat → Int32} {c m : Nat} {nk : Int} {bs bf bj : Nat → Int32} {fo : Option Nat} {w fr j z : Int32} (h : PE f c nk m bs bf bj [false] true fo) (hw : w.toInt = 0 ∨ (w.toInt = 2 ∧ ∃ t : Nat, fo = some t ∧ fr.toInt = (t : Int) ∧ t < c)) (hj : j.toInt = (c : Int) + 1) : PE (upd (upd f c 501) (c + 1) z) (c + 2) nk (m + 1) (upd bs m w) (upd bf m fr) (upd bj m j) [] true none := by
  obtain ⟨ty, h1, h2⟩ := h
  have h3 := h1.2.1
  have h4 := h1.2.2.1
  have hn : ty (c + 1) = none := by
    cases e : ty (c + 1) with
    | none => rfl
    | some p => exact absurd (h3 (c + 1) p.1 p.2 e).2 (by omega)
  refine ⟨tx ty (c + 2) [] true, PW_gen h1 (by omega) (fun k hk => by rw [x_upd_ne _ _ (by omega), x_upd_ne _ _ (by omega)]) (Int.le_refl _) (fun j hj => tx_ne _ _ _ (by omega)) ⟨true, id, by rw [tx_ne _ _ _ (by omega)]; exact h4⟩ (fun j T1 b1 hj hj2 => ?_) (tx_same _ _ _ _) (fun i T1 b1 k1 k2 k3 => ?_) (fun s fr1 j1 ⟨k, k1, k2, k3, k4⟩ => ⟨k, by omega, by rw [x_upd_ne _ _ (by omega)]; exact k2, by rw [x_upd_ne _ _ (by omega)]; exact k3, by rw [x_upd_ne _ _ (by omega)]; exact k4⟩) (fun s fr1 j1 ⟨k, k1, k2, k3, k4⟩ => ?_), fun t ht => by cases ht⟩
  · by_cases e : j = c + 2
    · subst e
      rw [tx_same] at hj2
      cases hj2
      exact ⟨Nat.zero_le _, Nat.le_refl _⟩
    · rw [tx_ne _ _ _ e] at hj2
      have := h3 j T1 b1 hj2
      omega
  · by_cases e : i = c
    · subst e
      exact Or.inr ⟨_, _, m, by omega, rfl, rfl, by rw [x_upd_same]; omega⟩
    · have e2 : i = c + 1 := by omega
      subst e2
      rw [tx_ne _ _ _ (by omega), hn] at k3
      cases k3
  · by_cases e : k = m
    · subst e
      rw [x_upd_same] at k2 k3 k4
      refine Or.inr ⟨c, by omega, by omega, by rw [tx_ne _ _ _ (by omega)]; exact hn, ⟨true, tx_same _ _ _ _⟩, Or.inr ⟨by omega, by rw [x_upd_ne _ _ (by omega), x_upd_same]; rfl, by rw [tx_ne _ _ _ (by omega)]; exact h4⟩, fun es => ?_⟩
      rcases hw with hw | ⟨_, t, ht, ht2, ht3⟩
      · omega
      · exact ⟨t, by omega, ht3, by rw [tx_ne _ _ _ (by omega)]; exact (h2 t ht).2⟩
    · rw [x_upd_ne _ _ e] at k2 k3 k4
      exact Or.inl ⟨k, by omega, k2, k3, k4⟩
/-- a block closes: its jump comes here -/
theorem PE_close {f : Nat → Int32} {c m i : Nat} {nk : Int} {bs bf bj : Nat → Int32} {v : Int32} (h : PE f c nk (m + 1) bs bf bj [] true none) (hi : (bj m).toInt = (i : Int) + 1) (hv : v.toInt = (c : Int)) : PE (upd f (i + 1) v) c nk m bs bf bj [] true none := by
  obtain ⟨ty, h1, _⟩ := h
  obtain ⟨g1, g2⟩ := HO_aim (nk := nk) (h1.2.2.2.2 _ _ _ ⟨m, Nat.lt_succ_self m, rfl, rfl, hi⟩) h1.2.2.1 hv
  refine ⟨ty, PW_patch h1 g1 g2 (fun s fr j ⟨k, k1, k2⟩ => ⟨k, by omega, k2⟩) (fun s fr j ⟨k, k1, k2, k3, k4⟩ => ?_), fun t ht => by cases ht⟩
  by_cases e : k = m
  · subst e; exact Or.inl (by omega)
  · exact Or.inr ⟨k, by omega, k2, k3, k4⟩
theorem PE_jump {f : Nat → Int32} {c m : Nat} {nk : Int} {bs bf bj : Nat → Int32} (h : PE f c nk m bs bf bj [] true none) {k : Nat} (hk : k < m) : ∃ i : Nat, (bj k).toInt = (i : Int) + 1 ∧ i + 2 ≤ c := by
  obtain ⟨ty, h1, _⟩ := h
  obtain ⟨i, q1, q2, _⟩ := h1.2.2.2.2 _ _ _ ⟨k, hk, rfl, rfl, rfl⟩
  exact ⟨i, q1, q2⟩
/-- the way back to a loop's head -/
theorem PE_back {f : Nat → Int32} {c m : Nat} {nk : Int} {bs bf bj : Nat → Int32} {v : Int32} (h : PE f c nk (m + 1) bs bf bj [] true none) (hs : (bs m).toInt = 2) (hv : v.toInt = (bf m).toInt) : PE (upd (upd f c 502) (c + 1) v) (c + 2) nk (m + 1) bs bf bj [] true none := by
  obtain ⟨ty, h1, _⟩ := h
  have h3 := h1.2.1
  have h4 := h1.2.2.1
  obtain ⟨i, q1, q2, q3, q4, q5, q6⟩ := h1.2.2.2.2 _ _ _ ⟨m, Nat.lt_succ_self m, rfl, rfl, rfl⟩
  obtain ⟨t, t1, t2, t3⟩ := q6 hs
  have hn : ty (c + 1) = none := by
    cases e : ty (c + 1) with
    | none => rfl
    | some p => exact absurd (h3 (c + 1) p.1 p.2 e).2 (by omega)
  refine ⟨tx ty (c + 2) [] true, PW_gen h1 (by omega) (fun k hk => by rw [x_upd_ne _ _ (by omega), x_upd_ne _ _ (by omega)]) (Int.le_refl _) (fun j hj => tx_ne _ _ _ (by omega)) ⟨true, id, by rw [tx_ne _ _ _ (by omega)]; exact h4⟩ (fun j T1 b1 hj hj2 => ?_) (tx_same _ _ _ _) (fun i T1 b1 k1 k2 k3 => ?_) (fun _ _ _ hj => hj) (fun _ _ _ hj => Or.inl hj), fun t ht => by cases ht⟩
  · by_cases e : j = c + 2
    · subst e
      rw [tx_same] at hj2
      cases hj2
      exact ⟨Nat.zero_le _, Nat.le_refl _⟩
    · rw [tx_ne _ _ _ e] at hj2
      have := h3 j T1 b1 hj2
      omega
  · by_cases e : i = c
    · subst e
      rw [tx_ne _ _ _ (by omega), h4] at k3
      cases k3
      refine Or.inl ?_
      unfold SOK
      rw [x_upd_ne _ _ (by omega : i ≠ i + 1), x_upd_same, x_upd_same]
      exact Or.inr (Or.inr (Or.inr (Or.inr (Or.inr (Or.inr (Or.inr (Or.inl ⟨rfl, by omega, t, by omega, by omega, false, by rw [tx_ne _ _ _ (by omega)]; exact t3, Or.inr ⟨rfl, rfl⟩⟩)))))))
    · have e2 : i = c + 1 := by omega
      subst e2
      rw [tx_ne _ _ _ (by omega), hn] at k3
      cases k3
/-- an else behind a block: its jump waits, the block's comes behind it -/
theorem PE_else {f : Nat → Int32} {c m i : Nat} {nk : Int} {bs bf bj : Nat → Int32} {w fr j z v : Int32} (h : PE f c nk (m + 1) bs bf bj [] true none) (hi : (bj m).toInt = (i : Int) + 1) (hw : w.toInt = 1) (hj : j.toInt = (c : Int) + 1) (hv : v.toInt = (c : Int) + 2) : PE (upd (upd (upd f c 502) (c + 1) z) (i + 1) v) (c + 2) nk (m + 1) (upd bs m w) (upd bf m fr) (upd bj m j) [] true none := by
  obtain ⟨ty, h1, _⟩ := h
  have h3 := h1.2.1
  have h4 := h1.2.2.1
  have hn : ty (c + 1) = none := by
    cases e : ty (c + 1) with
    | none => rfl
    | some p => exact absurd (h3 (c + 1) p.1 p.2 e).2 (by omega)
  obtain ⟨i2, q1, q2, q3, q4, q5, q6⟩ := h1.2.2.2.2 _ _ _ ⟨m, Nat.lt_succ_self m, rfl, rfl, rfl⟩
  have h5 : PW (upd (upd f c 502) (c + 1) z) (c + 2) nk (fun s1 fr1 j1 => BH (m + 1) bs bf bj s1 fr1 j1 ∨ (s1 = 1 ∧ fr1 = fr.toInt ∧ j1 = (c : Int) + 1)) (tx ty (c + 2) [] true) [] true := by
    refine PW_gen h1 (by omega) (fun k hk => by rw [x_upd_ne _ _ (by omega), x_upd_ne _ _ (by omega)]) (Int.le_refl _) (fun j hj => tx_ne _ _ _ (by omega)) ⟨true, id, by rw [tx_ne _ _ _ (by omega)]; exact h4⟩ (fun j T1 b1 hj hj2 => ?_) (tx_same _ _ _ _) (fun i T1 b1 k1 k2 k3 => ?_) (fun _ _ _ hj => Or.inl hj) (fun s1 fr1 j1 hj => ?_)
    · by_cases e : j = c + 2
      · subst e
        rw [tx_same] at hj2
        cases hj2
        exact ⟨Nat.zero_le _, Nat.le_refl _⟩
      · rw [tx_ne _ _ _ e] at hj2
        have := h3 j T1 b1 hj2
        omega
    · by_cases e : i = c
      · subst e
        exact Or.inr ⟨1, fr.toInt, Or.inr ⟨rfl, rfl, rfl⟩⟩
      · have e2 : i = c + 1 := by omega
        subst e2
        rw [tx_ne _ _ _ (by omega), hn] at k3
        cases k3
    · rcases hj with hj | ⟨hj1, hj2, hj3⟩
      · exact Or.inl hj
      · exact Or.inr ⟨c, hj3, by omega, by rw [tx_ne _ _ _ (by omega)]; exact hn, ⟨true, tx_same _ _ _ _⟩, Or.inl ⟨hj1, by rw [x_upd_ne _ _ (by omega), x_upd_same]; rfl, by rw [tx_ne _ _ _ (by omega)]; exact h4⟩, fun e => by omega⟩
  obtain ⟨g1, g2⟩ := HO_aim (nk := nk) (h5.2.2.2.2 _ _ _ (Or.inl ⟨m, Nat.lt_succ_self m, rfl, rfl, hi⟩)) h5.2.2.1 (v := v) (by omega)
  refine ⟨_, PW_patch h5 g1 g2 (fun s1 fr1 j1 ⟨k, k1, k2, k3, k4⟩ => ?_) (fun s1 fr1 j1 hj1 => ?_), fun t ht => by cases ht⟩
  · by_cases e : k = m
    · subst e
      rw [x_upd_same] at k2 k3 k4
      exact Or.inr ⟨by omega, by omega, by omega⟩
    · rw [x_upd_ne _ _ e] at k2 k3 k4
      exact Or.inl ⟨k, k1, k2, k3, k4⟩
  · rcases hj1 with ⟨k, k1, k2, k3, k4⟩ | ⟨hj1, hj2, hj3⟩
    · by_cases e : k = m
      · subst e; exact Or.inl (by omega)
      · exact Or.inr ⟨k, k1, by rw [x_upd_ne _ _ e]; exact k2, by rw [x_upd_ne _ _ e]; exact k3, by rw [x_upd_ne _ _ e]; exact k4⟩
    · exact Or.inr ⟨m, Nat.lt_succ_self m, by rw [x_upd_same]; omega, by rw [x_upd_same]; omega, by rw [x_upd_same]; omega⟩
/-- a whole program -/
theorem PE_end {f f' : Nat → Int32} {c : Nat} {nk : Int} {bs bf bj : Nat → Int32} {T : List Bool} {b : Bool} {fo : Option Nat} (h : PE f c nk 0 bs bf bj T b fo) (hf : ∀ k, k < c → f' k = f k) : ∃ ty, WC f' c nk ty := by
  obtain ⟨ty, ⟨h1, h2, _, h4, _⟩, _⟩ := h
  refine ⟨ty, h1, h2, fun i T1 b1 hi hi2 => ?_⟩
  rcases h4 i T1 b1 hi hi2 with h6 | ⟨s, fr, k, h6, _⟩
  · exact SOK_mono h6 hi hf (Nat.le_refl _) (Int.le_refl _) (fun j T1 b1 h9 => ⟨b1, id, h9⟩)
  · exact absurd h6 (by omega)
