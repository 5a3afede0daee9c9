/-! what lies beside the world: the one text of the class, two static fields of the JDK's, the links of the nest, the class of int[][] -/
def va_AOA (ty : FieldType) (U : State) : Prop := (Cond.arrayOver (.array ty)).before #[] U = true
theorem va_AOA.use {ty : FieldType} {A : Array Value} {U : State} (h : va_AOA ty U) : (Cond.arrayOver (.array ty)).before A U = true := arrayOver_alikeB (Vm.Alike.refl U.vm) h
theorem va_AOA.of {ty : FieldType} {A : Array Value} {U : State} (h : (Cond.arrayOver (.array ty)).before A U = true) : va_AOA ty U := arrayOver_alikeB (Vm.Alike.refl U.vm) h
theorem va_AOA.moved {ty : FieldType} {u U : State} (hvm : u.vm.Alike U.vm) (h : va_AOA ty u) : va_AOA ty U := arrayOver_alikeB hvm h
def xTx : String := "input row var set give if while else and or not abs min max "
def xBy : List Int32 := [105, 110, 112, 117, 116, 32, 114, 111, 119, 32, 118, 97, 114, 32, 115, 101, 116, 32, 103, 105, 118, 101, 32, 105, 102, 32, 119, 104, 105, 108, 101, 32, 101, 108, 115, 101, 32, 97, 110, 100, 32, 111, 114, 32, 110, 111, 116, 32, 97, 98, 115, 32, 109, 105, 110, 32, 109, 97, 120, 32]
def xNl : List (Nat × MethodName) := [(9, yX9_init), (18, yX5_init), (25, yX2_init), (32, yX4_init), (39, yX7_init), (46, yX1_init), (53, yX3_init), (60, yX8_init), (70, yX6_init)]
def xE (a v : Nat) (o : Option Nat) (A : Nat → Prop) (U : State) : Prop := vk_R RX10 25 xTx a U ∧ vk_S 1 [60] [xBy] (fun _ => a) (fun _ => v) A U U.heap ∧ va_Z "java/lang/String" "COMPACT_STRINGS" "Z" (.int 1) A U U.heap ∧ va_Z "jdk/internal/util/Preconditions" "SIOOBE_FORMATTER" "Ljava/util/function/BiFunction;" (va_rf o) A U U.heap ∧ va_AOA .int U ∧ ∀ x ∈ xNl, va_Nw (.methodLinkNest RX11 x.1 x.2 "SlopeRunner") U
theorem xE.to {a v : Nat} {o : Option Nat} {A B : Nat → Prop} {s U : State} {H : Heap} {locs : List Loc} (h : xE a v o A s) (hW : s.WarmedH U.vm) (hU : U.heap = H) (hS : va_S A s.heap H locs) (hB : ∀ q, B q → A q) : xE a v o B U := by
  obtain ⟨h1, h2, h3, h4, h5, h6⟩ := h
  subst hU
  exact ⟨h1.warm hW, ((vk_S.moved hW.alike h2).kept hS.2.1).narrow hB, ((va_Z.moved hW.alike h3).kept hS.2.1).narrow hB, ((va_Z.moved hW.alike h4).kept hS.2.1).narrow hB, va_AOA.moved hW.alike h5, fun x hx => va_Nw.warmM hW (h6 x hx)⟩
theorem xE.fb {a v : Nat} {o : Option Nat} {A : Nat → Prop} {U : State} {g : JFrame} {mk : MethodId} {args : Array Value} (h : xE a v o A U) : xE a v o A (U.calling g mk args) := by
  obtain ⟨h1, h2, h3, h4, h5, h6⟩ := h
  exact ⟨vk_R.same (u := U) rfl h1, vk_S.moved (u := U) (Vm.Alike.refl U.vm) h2, va_Z.moved (u := U) (Vm.Alike.refl U.vm) h3, va_Z.moved (u := U) (Vm.Alike.refl U.vm) h4, va_AOA.moved (u := U) (Vm.Alike.refl U.vm) h5, fun x hx => va_Nw.same (u := U) rfl rfl (h6 x hx)⟩
theorem x_fbE {a v : Nat} {o : Option Nat} {B : Nat → Prop} {D : va_G} {tys : List (ClassId × FieldType)} {wc : va_W} {sz : Nat} {av : List Value} : FrameBlind (va_Pc av (fun U => xE a v o B U ∧ xPre D tys wc sz U)) := fun a U g mk q => by
  obtain ⟨q0, qE, q1, qP, qK, qD⟩ := q
  exact ⟨q0, xE.fb qE, q1, qP, va_K.moved (u := U) (U := U.calling g mk a) (Vm.Alike.refl U.vm) qK, qD⟩
section XWE
variable {p : Program} {l : Launch} {e : Env} {R : Room} {s : State} {m : MethodId} {args : Array Value} {below : List Frame} {meth : Method} {c : Code} {H : Heap} {locs : List Loc} {cells slots : Nat} {Q : State → Prop}
variable {cc : ByteArray} {pc : Nat} {ls : Array Slot} {rest : List Value} {D : va_G} {A : Nat → Prop} {tys : List (ClassId × FieldType)} {ws : va_W} {H0 : Heap}
theorem x_preSE {a v : Nat} {o : Option Nat} {As : List Value} {wc : va_W} (hK : va_K D vwCl tys s) (hPc : va_P D vwCl wc H) (hDc : va_D A wc) (hE : xE a v o A s) (hS : va_S A s.heap H locs) (hF : ∀ q, va_A wc H.size q → A q) : PreS s H (va_Pc As (fun U => xE a v o (va_A wc H.size) U ∧ xPre D tys wc H.size U)) As :=
  ⟨x_fbE, fun U hU hW => ⟨rfl, hE.to hW hU hS hF, by rw [hU], by rw [hU]; exact hPc, va_K.moved hW.alike hK, hDc.weaken (fun _ _ _ _ => trivial)⟩⟩
theorem x_preVT {a v : Nat} {o : Option Nat} {As : List Value} {wc : va_W} (hK : va_K D vwCl tys s) (hPc : va_P D vwCl wc H) (hDc : va_D A wc) (hE : xE a v o A s) (hS : va_S A s.heap H locs) (hF : ∀ q, va_A wc H.size q → A q) : PreV s H "java/lang/String" a (va_Pc (.ref a :: As) (fun U => xE a v o (va_A wc H.size) U ∧ xPre D tys wc H.size U)) As :=
  ⟨x_fbE, vk_recv (i := 0) hE.2.1 (by decide) hS, fun U hU hW => ⟨rfl, hE.to hW hU hS hF, by rw [hU], by rw [hU]; exact hPc, va_K.moved hW.alike hK, hDc.weaken (fun _ _ _ _ => trivial)⟩⟩
end XWE
theorem x_metiE {l : Launch} {y0 : MethodName} {ws0 ws1 : List Cond} {rm : Room} {D : va_G} {tys : List (ClassId × FieldType)} {av : List Value} {wc : va_W} {sz : Nat} {S : Type} {post : Int32 → S → Prop} {w1 : S → va_W} {mc ms : Nat} {cc : ByteArray} {maxL : Nat} {ret : Option FieldType} {a9 v9 : Nat} {o9 : Option Nat}
    (hy : plainName y0.cls = true) (hw : ws0 = Cond.code y0 cc maxL ret :: ws1) (hlen : (lg_sl av).length ≤ maxL)
    (body : ∀ (p : Program) (e : Env) (s : State) (m : MethodId) (below : List Frame) (meth : Method) (c : Code) (A : Nat → Prop) (H : Heap) (locs : List Loc) (Q : State → Prop), p.tables.exec = Jvm.exec → c.code = cc → c.maxLocals = maxL → s.vm.findClass y0.cls = some m.cls → (∀ w ∈ ws0, w.before av.toArray s = true) → meth.sig.returnType = ret → meth.locks = false → meth.name = y0.name → (∀ q : Nat, s.heap.size ≤ q → A q) → va_P D vwCl wc H → va_K D vwCl tys s → va_D A wc → va_S A s.heap H locs → ∀ ls : Array Slot, lv_has ls maxL (lv_args 0 av) →
      Q = MQ below (va_Qi post (fun u => xB D tys A (w1 u)) A) av.toArray s mc ms A → xE a9 v9 o9 A s → W p l e rm s m av.toArray below meth c H locs 0 0 Q (F0 m 0 ls [])) :
    Met l y0 ws0 rm (va_Pc av (fun U => xE a9 v9 o9 (va_A wc sz) U ∧ xPre D tys wc sz U)) (va_Qi post (fun u => xB D tys (va_A wc sz) (w1 u)) (va_A wc sz)) mc ms (va_A wc sz) := by
  refine Met.ofW (cc := cc) (maxL := maxL) (ret := ret) hy hw ?_
  intro p e s m args below meth c s₁ B hml hv
  obtain ⟨rfl, hE, hsz, hP, hK, hD0⟩ := hv
  subst hsz
  have hl := lv_entry av (n := maxL) hlen
  rw [lg_entry_eq]
  generalize (lg_sl av ++ List.replicate (maxL - (lg_sl av).length) Slot.unset).toArray = ls at hl ⊢
  exact body p e s m below meth c _ s.heap [] _ B.exec B.bytes hml (findClass_of_methodNamed B.named) (atoms_spec (ws := ws0) B.pre) B.returns B.notSynchronized (name_of_methodNamed B.named B.method).1 (fun q h => Or.inr h) hP hK (hD0.self (sz := s.heap.size)) va_S.rf ls hl rfl hE
theorem x_metvE {l : Launch} {y0 : MethodName} {ws0 ws1 : List Cond} {rm : Room} {D : va_G} {tys : List (ClassId × FieldType)} {av : List Value} {wc : va_W} {sz : Nat} {S : Type} {post : S → Prop} {w1 : S → va_W} {mc ms : Nat} {cc : ByteArray} {maxL : Nat} {ret : Option FieldType} {a9 v9 : Nat} {o9 : Option Nat}
    (hy : plainName y0.cls = true) (hw : ws0 = Cond.code y0 cc maxL ret :: ws1) (hlen : (lg_sl av).length ≤ maxL)
    (body : ∀ (p : Program) (e : Env) (s : State) (m : MethodId) (below : List Frame) (meth : Method) (c : Code) (A : Nat → Prop) (H : Heap) (locs : List Loc) (Q : State → Prop), p.tables.exec = Jvm.exec → c.code = cc → c.maxLocals = maxL → s.vm.findClass y0.cls = some m.cls → (∀ w ∈ ws0, w.before av.toArray s = true) → meth.sig.returnType = ret → meth.locks = false → meth.name = y0.name → (∀ q : Nat, s.heap.size ≤ q → A q) → va_P D vwCl wc H → va_K D vwCl tys s → va_D A wc → va_S A s.heap H locs → ∀ ls : Array Slot, lv_has ls maxL (lv_args 0 av) →
      Q = MQ below (va_Qv post (fun u => xB D tys A (w1 u)) A) av.toArray s mc ms A → xE a9 v9 o9 A s → W p l e rm s m av.toArray below meth c H locs 0 0 Q (F0 m 0 ls [])) :
    Met l y0 ws0 rm (va_Pc av (fun U => xE a9 v9 o9 (va_A wc sz) U ∧ xPre D tys wc sz U)) (va_Qv post (fun u => xB D tys (va_A wc sz) (w1 u)) (va_A wc sz)) mc ms (va_A wc sz) := by
  refine Met.ofW (cc := cc) (maxL := maxL) (ret := ret) hy hw ?_
  intro p e s m args below meth c s₁ B hml hv
  obtain ⟨rfl, hE, hsz, hP, hK, hD0⟩ := hv
  subst hsz
  have hl := lv_entry av (n := maxL) hlen
  rw [lg_entry_eq]
  generalize (lg_sl av ++ List.replicate (maxL - (lg_sl av).length) Slot.unset).toArray = ls at hl ⊢
  exact body p e s m below meth c _ s.heap [] _ B.exec B.bytes hml (findClass_of_methodNamed B.named) (atoms_spec (ws := ws0) B.pre) B.returns B.notSynchronized (name_of_methodNamed B.named B.method).1 (fun q h => Or.inr h) hP hK (hD0.self (sz := s.heap.size)) va_S.rf ls hl rfl hE
theorem x_c2 (x : Int32) : narrow .char (.int (x.toUInt32 % 65536).toInt32) = .int (x.toUInt32 % 65536).toInt32 := by
  show Value.int (((x.toUInt32 % 65536).toInt32.toUInt32.toUInt16).toUInt32.toInt32) = _
  rw [UInt32.toUInt32_toInt32, UInt32.toUInt32_toUInt16]
  congr 2
  apply UInt32.toNat_inj.mp
  simp [UInt32.toNat_mod]

theorem dJ3_checkIndex_8e157_0 : decode cJ3_checkIndex_8e157 0 = .ok (.iload_n 0, 1) := by decide +kernel
theorem dJ3_checkIndex_8e157_1 : decode cJ3_checkIndex_8e157 1 = .ok (.ifCond .lt 8, 3) := by decide +kernel
theorem dJ3_checkIndex_8e157_4 : decode cJ3_checkIndex_8e157 4 = .ok (.iload_n 0, 1) := by decide +kernel
theorem dJ3_checkIndex_8e157_5 : decode cJ3_checkIndex_8e157 5 = .ok (.iload_n 1, 1) := by decide +kernel
theorem dJ3_checkIndex_8e157_6 : decode cJ3_checkIndex_8e157 6 = .ok (.if_icmp .lt 10, 3) := by decide +kernel
theorem dJ3_checkIndex_8e157_9 : decode cJ3_checkIndex_8e157 9 = .ok (.aload_n 2, 1) := by decide +kernel
theorem dJ3_checkIndex_8e157_10 : decode cJ3_checkIndex_8e157 10 = .ok (.iload_n 0, 1) := by decide +kernel
theorem dJ3_checkIndex_8e157_11 : decode cJ3_checkIndex_8e157 11 = .ok (.iload_n 1, 1) := by decide +kernel
theorem dJ3_checkIndex_8e157_12 : decode cJ3_checkIndex_8e157 12 = .ok (.invokestatic 95, 3) := by decide +kernel
theorem dJ3_checkIndex_8e157_15 : decode cJ3_checkIndex_8e157 15 = .ok (.athrow, 1) := by decide +kernel
theorem dJ3_checkIndex_8e157_16 : decode cJ3_checkIndex_8e157 16 = .ok (.iload_n 0, 1) := by decide +kernel
theorem dJ3_checkIndex_8e157_17 : decode cJ3_checkIndex_8e157 17 = .ok (.ireturn, 1) := by decide +kernel
theorem dJ0_checkIndex_df160_0 : decode cJ0_checkIndex_df160 0 = .ok (.iload_n 0, 1) := by decide +kernel
theorem dJ0_checkIndex_df160_1 : decode cJ0_checkIndex_df160 1 = .ok (.iload_n 1, 1) := by decide +kernel
theorem dJ0_checkIndex_df160_2 : decode cJ0_checkIndex_df160 2 = .ok (.getstatic 1053, 3) := by decide +kernel
theorem dJ0_checkIndex_df160_5 : decode cJ0_checkIndex_df160 5 = .ok (.invokestatic 1059, 3) := by decide +kernel
theorem dJ0_checkIndex_df160_8 : decode cJ0_checkIndex_df160 8 = .ok (.pop, 1) := by decide +kernel
theorem dJ0_checkIndex_df160_9 : decode cJ0_checkIndex_df160 9 = .ok (.return_, 1) := by decide +kernel
theorem dJ1_charAt_3b067_0 : decode cJ1_charAt_3b067 0 = .ok (.iload_n 1, 1) := by decide +kernel
theorem dJ1_charAt_3b067_1 : decode cJ1_charAt_3b067 1 = .ok (.aload_n 0, 1) := by decide +kernel
theorem dJ1_charAt_3b067_2 : decode cJ1_charAt_3b067 2 = .ok (.arraylength, 1) := by decide +kernel
theorem dJ1_charAt_3b067_3 : decode cJ1_charAt_3b067 3 = .ok (.invokestatic 9, 3) := by decide +kernel
theorem dJ1_charAt_3b067_6 : decode cJ1_charAt_3b067 6 = .ok (.aload_n 0, 1) := by decide +kernel
theorem dJ1_charAt_3b067_7 : decode cJ1_charAt_3b067 7 = .ok (.iload_n 1, 1) := by decide +kernel
theorem dJ1_charAt_3b067_8 : decode cJ1_charAt_3b067 8 = .ok (.baload, 1) := by decide +kernel
theorem dJ1_charAt_3b067_9 : decode cJ1_charAt_3b067 9 = .ok (.sipush 255, 3) := by decide +kernel
theorem dJ1_charAt_3b067_12 : decode cJ1_charAt_3b067 12 = .ok (.iand, 1) := by decide +kernel
theorem dJ1_charAt_3b067_13 : decode cJ1_charAt_3b067 13 = .ok (.i2c, 1) := by decide +kernel
theorem dJ1_charAt_3b067_14 : decode cJ1_charAt_3b067 14 = .ok (.ireturn, 1) := by decide +kernel
theorem dJ0_isLatin1_aae02_0 : decode cJ0_isLatin1_aae02 0 = .ok (.getstatic 38, 3) := by decide +kernel
theorem dJ0_isLatin1_aae02_3 : decode cJ0_isLatin1_aae02 3 = .ok (.ifCond .eq 14, 3) := by decide +kernel
theorem dJ0_isLatin1_aae02_6 : decode cJ0_isLatin1_aae02 6 = .ok (.aload_n 0, 1) := by decide +kernel
theorem dJ0_isLatin1_aae02_7 : decode cJ0_isLatin1_aae02 7 = .ok (.getfield 15, 3) := by decide +kernel
theorem dJ0_isLatin1_aae02_10 : decode cJ0_isLatin1_aae02 10 = .ok (.ifCond .ne 7, 3) := by decide +kernel
theorem dJ0_isLatin1_aae02_13 : decode cJ0_isLatin1_aae02 13 = .ok (.iconst 1, 1) := by decide +kernel
theorem dJ0_isLatin1_aae02_14 : decode cJ0_isLatin1_aae02 14 = .ok (.goto 4, 3) := by decide +kernel
theorem dJ0_isLatin1_aae02_17 : decode cJ0_isLatin1_aae02 17 = .ok (.iconst 0, 1) := by decide +kernel
theorem dJ0_isLatin1_aae02_18 : decode cJ0_isLatin1_aae02 18 = .ok (.ireturn, 1) := by decide +kernel
theorem dJ0_coder_7d493_0 : decode cJ0_coder_7d493 0 = .ok (.getstatic 38, 3) := by decide +kernel
theorem dJ0_coder_7d493_3 : decode cJ0_coder_7d493 3 = .ok (.ifCond .eq 10, 3) := by decide +kernel
theorem dJ0_coder_7d493_6 : decode cJ0_coder_7d493 6 = .ok (.aload_n 0, 1) := by decide +kernel
theorem dJ0_coder_7d493_7 : decode cJ0_coder_7d493 7 = .ok (.getfield 15, 3) := by decide +kernel
theorem dJ0_coder_7d493_10 : decode cJ0_coder_7d493 10 = .ok (.goto 4, 3) := by decide +kernel
theorem dJ0_coder_7d493_13 : decode cJ0_coder_7d493 13 = .ok (.iconst 1, 1) := by decide +kernel
theorem dJ0_coder_7d493_14 : decode cJ0_coder_7d493 14 = .ok (.ireturn, 1) := by decide +kernel
theorem dJ0_length_8abf5_0 : decode cJ0_length_8abf5 0 = .ok (.aload_n 0, 1) := by decide +kernel
theorem dJ0_length_8abf5_1 : decode cJ0_length_8abf5 1 = .ok (.getfield 9, 3) := by decide +kernel
theorem dJ0_length_8abf5_4 : decode cJ0_length_8abf5 4 = .ok (.arraylength, 1) := by decide +kernel
theorem dJ0_length_8abf5_5 : decode cJ0_length_8abf5 5 = .ok (.aload_n 0, 1) := by decide +kernel
theorem dJ0_length_8abf5_6 : decode cJ0_length_8abf5 6 = .ok (.invokevirtual 335, 3) := by decide +kernel
theorem dJ0_length_8abf5_9 : decode cJ0_length_8abf5 9 = .ok (.ishr, 1) := by decide +kernel
theorem dJ0_length_8abf5_10 : decode cJ0_length_8abf5 10 = .ok (.ireturn, 1) := by decide +kernel
theorem dJ0_charAt_5068e_0 : decode cJ0_charAt_5068e 0 = .ok (.aload_n 0, 1) := by decide +kernel
theorem dJ0_charAt_5068e_1 : decode cJ0_charAt_5068e 1 = .ok (.invokevirtual 492, 3) := by decide +kernel
theorem dJ0_charAt_5068e_4 : decode cJ0_charAt_5068e 4 = .ok (.ifCond .eq 12, 3) := by decide +kernel
theorem dJ0_charAt_5068e_7 : decode cJ0_charAt_5068e 7 = .ok (.aload_n 0, 1) := by decide +kernel
theorem dJ0_charAt_5068e_8 : decode cJ0_charAt_5068e 8 = .ok (.getfield 9, 3) := by decide +kernel
theorem dJ0_charAt_5068e_11 : decode cJ0_charAt_5068e 11 = .ok (.iload_n 1, 1) := by decide +kernel
theorem dJ0_charAt_5068e_12 : decode cJ0_charAt_5068e 12 = .ok (.invokestatic 495, 3) := by decide +kernel
theorem dJ0_charAt_5068e_15 : decode cJ0_charAt_5068e 15 = .ok (.ireturn, 1) := by decide +kernel
theorem dJ0_charAt_5068e_16 : decode cJ0_charAt_5068e 16 = .ok (.aload_n 0, 1) := by decide +kernel
theorem dJ0_charAt_5068e_17 : decode cJ0_charAt_5068e 17 = .ok (.getfield 9, 3) := by decide +kernel
theorem dJ0_charAt_5068e_20 : decode cJ0_charAt_5068e 20 = .ok (.iload_n 1, 1) := by decide +kernel
theorem dJ0_charAt_5068e_21 : decode cJ0_charAt_5068e 21 = .ok (.invokestatic 498, 3) := by decide +kernel
theorem dJ0_charAt_5068e_24 : decode cJ0_charAt_5068e 24 = .ok (.ireturn, 1) := by decide +kernel
def v_c_pcheck : List Cond := .code yJ3_checkIndex_8e157 cJ3_checkIndex_8e157 3 (some .int) :: []
set_option maxHeartbeats 4000000 in
set_option maxRecDepth 100000 in
theorem c_pcheck (l : Launch) (D : va_G) (y : Nat → ClassId) (sz : Nat) (o9 : Option Nat) (i n : Int32) (hi0 : 0 ≤ i.toInt) (hi1 : i.toInt < n.toInt) : Met l yJ3_checkIndex_8e157 v_c_pcheck ({ frames := 0, cells := 0, slots := 0, locals := 0 } : Room) (va_Pc [.int i, .int n, va_rf o9] (xPre D (xT y) [] sz)) (va_Qi (fun (r : Int32) (_ : Unit) => r = i) (fun (u : Unit) => xB D (xT y) (va_A [] sz) []) (va_A [] sz)) 0 0 (va_A [] sz) := by
  refine x_meti (cc := cJ3_checkIndex_8e157) (maxL := 3) (by decide) rfl (by cases o9 <;> exact Nat.le_of_ble_eq_true rfl) ?_
  intro p e s m below meth c A H locs Q hx hb hml hown hts hr hlocks hmn hA hP hK hD hS ls hl hQ
  have hl : lv_has ls 3 [(0, .int i), (1, .int n), (2, va_rf o9)] := hl
  refine lv_iload_n hx hb dJ3_checkIndex_8e157_0 rfl (lv_at hl 0 rfl) ?_
  refine lv_if_lt (tgt := 9) hx hb dJ3_checkIndex_8e157_1 (by decide) (fun c_1 => ?_) (fun c_1 => ?_)
  · exact absurd c_1 (by (try dsimp only); (try simp only [lg_cmp_lt, lg_cmp_le, lg_cmp_gt, lg_cmp_ge] at *); (try simp only [x_lt, x_le, Int32.reduceToInt, x_ltL, x_leL, Int64.reduceToInt] at *); omega)
  · refine lv_iload_n hx hb dJ3_checkIndex_8e157_4 rfl (lv_at hl 0 rfl) ?_
    refine lv_iload_n hx hb dJ3_checkIndex_8e157_5 rfl (lv_at hl 1 rfl) ?_
    refine lv_icmp_lt (tgt := 16) hx hb dJ3_checkIndex_8e157_6 (by decide) (fun c_2 => ?_) (fun c_2 => ?_)
    · refine lv_iload_n hx hb dJ3_checkIndex_8e157_16 rfl (lv_at hl 0 rfl) ?_
      exact x_iret (v := i) (u := ()) hx hb hr rfl hP hD hK hS [] rfl (by decide) dJ3_checkIndex_8e157_17 hlocks hQ
    · exact absurd (by (try dsimp only); (try simp only [lg_cmp_lt, lg_cmp_le, lg_cmp_gt, lg_cmp_ge] at *); (try simp only [x_lt, x_le, Int32.reduceToInt, x_ltL, x_leL, Int64.reduceToInt] at *); omega) c_2

def v_c_scheck : List Cond := .code yJ0_checkIndex_df160 cJ0_checkIndex_df160 2 none :: ([.fieldLink RJ0 1053 "jdk/internal/util/Preconditions" "SIOOBE_FORMATTER" "Ljava/util/function/BiFunction;"] ++ (va_wsS RJ0 1059 yJ3_checkIndex_8e157 v_c_pcheck))
theorem g_c_scheck_0 : GoodIn v_c_scheck (va_wsS RJ0 1059 yJ3_checkIndex_8e157 v_c_pcheck) := goodIn_sub (fun w h => List.mem_cons_of_mem _ (List.mem_append_right _ h)) (by decide +kernel)
set_option maxHeartbeats 4000000 in
set_option maxRecDepth 100000 in
theorem c_scheck (l : Launch) (D : va_G) (y : Nat → ClassId) (sz : Nat) (a9 v9 : Nat) (o9 : Option Nat) (i n : Int32) (hi0 : 0 ≤ i.toInt) (hi1 : i.toInt < n.toInt) : Met l yJ0_checkIndex_df160 v_c_scheck ({ frames := 1, cells := 0, slots := 0, locals := 22 } : Room) (va_Pc [.int i, .int n] (fun U => xE a9 v9 o9 (va_A [] sz) U ∧ xPre D (xT y) [] sz U)) (va_Qv (fun (_ : Unit) => True) (fun (u : Unit) => xB D (xT y) (va_A [] sz) []) (va_A [] sz)) 0 0 (va_A [] sz) := by
  refine x_metvE (cc := cJ0_checkIndex_df160) (maxL := 2) (by decide) rfl (Nat.le_of_ble_eq_true rfl) ?_
  intro p e s m below meth c A H locs Q hx hb hml hown hts hr hlocks hmn hA hP hK hD hS ls hl hQ hE
  have hl : lv_has ls 2 [(0, .int i), (1, .int n)] := hl
  have fl1053 := hts (.fieldLink RJ0 1053 "jdk/internal/util/Preconditions" "SIOOBE_FORMATTER" "Ljava/util/function/BiFunction;") (List.mem_of_getElem? (i := 1) rfl)
  refine lv_iload_n hx hb dJ0_checkIndex_df160_0 rfl (lv_at hl 0 rfl) ?_
  refine lv_iload_n hx hb dJ0_checkIndex_df160_1 rfl (lv_at hl 1 rfl) ?_
  refine va_gets hx hb hE.2.2.2.1 hS hown fl1053 (fun _ h9 => h9) dJ0_checkIndex_df160_2 ?_
  refine x_calli (w1 := fun (u : Unit) => []) (wr := []) (ws' := fun (u : Unit) => []) (va_runS (As := [.int i, .int n, va_rf o9]) (rest := []) ⟨hx, hb, hml, hown, hts⟩ (c_pcheck l D y H.size o9 i n hi0 hi1) (va_cwS 3 hts g_c_scheck_0 rfl rfl rfl (by decide +kernel) ⟨Nat.le_of_ble_eq_true rfl, Nat.le_of_ble_eq_true rfl⟩) (x_preS hK (x_subP hP [] rfl) (x_subD hD [] rfl (by decide))) rfl rfl hl.1 rfl (lv_room (Nat.le_of_ble_eq_true rfl)) dJ0_checkIndex_df160_5 ⟨Nat.le_of_ble_eq_true rfl, Nat.le_of_ble_eq_true rfl⟩) hP hD hS hA [] [] rfl rfl (by decide) (by decide) [] (fun _ => rfl) (by decide) (fun r_1 u H locs hw hP hD hS => ?_)
  try dsimp only at hw
  have hP : va_P D vwCl [] H := hP
  have hD : va_D A [] := hD
  refine lv_pop hx hb dJ0_checkIndex_df160_8 rfl ?_
  exact x_vret (u := ()) hx hb hr trivial hP hD hK hS [] rfl (by decide) dJ0_checkIndex_df160_9 hlocks hQ

def v_c_lcharAt : List Cond := .code yJ1_charAt_3b067 cJ1_charAt_3b067 2 (some .char) :: ([] ++ (va_wsS RJ1 9 yJ0_checkIndex_df160 v_c_scheck))
theorem g_c_lcharAt_0 : GoodIn v_c_lcharAt (va_wsS RJ1 9 yJ0_checkIndex_df160 v_c_scheck) := goodIn_sub (fun w h => List.mem_cons_of_mem _ (List.mem_append_right _ h)) (by decide +kernel)
set_option maxHeartbeats 4000000 in
set_option maxRecDepth 100000 in
theorem c_lcharAt (l : Launch) (D : va_G) (y : Nat → ClassId) (sz : Nat) (a9 v9 : Nat) (o9 : Option Nat) (i : Int32) (hi0 : 0 ≤ i.toInt) (hi1 : i.toInt < 60) : Met l yJ1_charAt_3b067 v_c_lcharAt ({ frames := 2, cells := 0, slots := 0, locals := 43 } : Room) (va_Pc [.ref v9, .int i] (fun U => xE a9 v9 o9 (va_A [] sz) U ∧ xPre D (xT y) [] sz U)) (va_Qi (fun (r : Int32) (_ : Unit) => narrow .char (.int r) = .int r) (fun (u : Unit) => xB D (xT y) (va_A [] sz) []) (va_A [] sz)) 0 0 (va_A [] sz) := by
  refine x_metiE (cc := cJ1_charAt_3b067) (maxL := 2) (by decide) rfl (Nat.le_of_ble_eq_true rfl) ?_
  intro p e s m below meth c A H locs Q hx hb hml hown hts hr hlocks hmn hA hP hK hD hS ls hl hQ hE
  have hl : lv_has ls 2 [(0, .ref v9), (1, .int i)] := hl
  refine lv_iload_n hx hb dJ1_charAt_3b067_0 rfl (lv_at hl 1 rfl) ?_
  refine lv_aload_n hx hb dJ1_charAt_3b067_1 rfl (lv_at hl 0 rfl) ?_
  refine va_tlen hx hb (v := 60) (hE.2.1.1 0 (by decide)).2.2.2 hS rfl dJ1_charAt_3b067_2 ?_
  refine x_callv (w1 := fun (u : Unit) => []) (wr := []) (ws' := fun (u : Unit) => []) (va_runS (As := [.int i, .int 60]) (rest := []) ⟨hx, hb, hml, hown, hts⟩ (c_scheck l D y H.size a9 v9 o9 i 60 hi0 (by (try dsimp only); (try simp only [lg_cmp_lt, lg_cmp_le, lg_cmp_gt, lg_cmp_ge] at *); (try simp only [x_lt, x_le, Int32.reduceToInt, x_ltL, x_leL, Int64.reduceToInt] at *); omega)) (va_cwS 2 hts g_c_lcharAt_0 rfl rfl rfl (by decide +kernel) ⟨Nat.le_of_ble_eq_true rfl, Nat.le_of_ble_eq_true rfl⟩) (x_preSE hK (x_subP hP [] rfl) (x_subD hD [] rfl (by decide)) hE hS (va_free hD hS hA [] rfl)) rfl rfl hl.1 rfl (lv_room (Nat.le_of_ble_eq_true rfl)) dJ1_charAt_3b067_3 ⟨Nat.le_of_ble_eq_true rfl, Nat.le_of_ble_eq_true rfl⟩) hP hD hS hA [] [] rfl rfl (by decide) (by decide) [] (fun _ => rfl) (by decide) (fun u H locs hw hP hD hS => ?_)
  try dsimp only at hw
  have hP : va_P D vwCl [] H := hP
  have hD : va_D A [] := hD
  refine lv_aload_n hx hb dJ1_charAt_3b067_6 rfl (lv_at hl 0 rfl) ?_
  refine lv_iload_n hx hb dJ1_charAt_3b067_7 rfl (lv_at hl 1 rfl) ?_
  refine va_tb hx hb (hE.2.1.1 0 (by decide)).2.2.2 hS (x_in hi0 hi1) rfl dJ1_charAt_3b067_8 ?_
  refine lv_topi (fun i_1 ei_1 => ?_)
  refine lv_sipush (v := 255) hx hb dJ1_charAt_3b067_9 (by decide) ?_
  refine lv_iand hx hb dJ1_charAt_3b067_12 ?_
  refine lv_topi (fun i_2 ei_2 => ?_)
  refine lv_i2c hx hb dJ1_charAt_3b067_13 rfl ?_
  refine lv_topi (fun i_3 ei_3 => ?_)
  exact x_zret (v := i_3) (u := ()) hx hb hr (by rw [ei_3]; exact x_c2 _) (by rw [ei_3]; exact x_c2 _) hP hD hK hS [] rfl (by decide) dJ1_charAt_3b067_14 hlocks hQ

def v_c_latin : List Cond := .code yJ0_isLatin1_aae02 cJ0_isLatin1_aae02 1 (some .boolean) :: [.fieldLink RJ0 38 "java/lang/String" "COMPACT_STRINGS" "Z", .fieldLink RJ0 15 "java/lang/String" "coder" "B"]
set_option maxHeartbeats 4000000 in
set_option maxRecDepth 100000 in
theorem c_latin (l : Launch) (D : va_G) (y : Nat → ClassId) (sz : Nat) (a9 v9 : Nat) (o9 : Option Nat)  : Met l yJ0_isLatin1_aae02 v_c_latin ({ frames := 0, cells := 0, slots := 0, locals := 0 } : Room) (va_Pc [.ref a9] (fun U => xE a9 v9 o9 (va_A [] sz) U ∧ xPre D (xT y) [] sz U)) (va_Qi (fun (r : Int32) (_ : Unit) => r = 1) (fun (u : Unit) => xB D (xT y) (va_A [] sz) []) (va_A [] sz)) 0 0 (va_A [] sz) := by
  refine x_metiE (cc := cJ0_isLatin1_aae02) (maxL := 1) (by decide) rfl (Nat.le_of_ble_eq_true rfl) ?_
  intro p e s m below meth c A H locs Q hx hb hml hown hts hr hlocks hmn hA hP hK hD hS ls hl hQ hE
  have hl : lv_has ls 1 [(0, .ref a9)] := hl
  have fl38 := hts (.fieldLink RJ0 38 "java/lang/String" "COMPACT_STRINGS" "Z") (List.mem_of_getElem? (i := 1) rfl)
  have fl15 := hts (.fieldLink RJ0 15 "java/lang/String" "coder" "B") (List.mem_of_getElem? (i := 2) rfl)
  refine va_gets hx hb hE.2.2.1 hS hown fl38 (fun _ h9 => h9) dJ0_isLatin1_aae02_0 ?_
  refine lv_if_eq (tgt := 17) hx hb dJ0_isLatin1_aae02_3 (by decide) (fun c_1 => ?_) (fun c_1 => ?_)
  · exact absurd c_1 (by decide)
  · refine lv_aload_n hx hb dJ0_isLatin1_aae02_6 rfl (lv_at hl 0 rfl) ?_
    refine vk_getf hx hb (hE.2.1.1 0 (by decide)).2.1 hS hown fl15 (fun _ h9 => h9) dJ0_isLatin1_aae02_7 ?_
    refine lv_if_ne (tgt := 17) hx hb dJ0_isLatin1_aae02_10 (by decide) (fun c_2 => ?_) (fun c_2 => ?_)
    · exact absurd (by decide) c_2
    · refine lv_iconst (v := 1) hx hb dJ0_isLatin1_aae02_13 (by decide) ?_
      refine lv_goto (tgt := 18) hx hb dJ0_isLatin1_aae02_14 (by decide) ?_
      exact x_zret (v := 1) (u := ()) hx hb hr rfl rfl hP hD hK hS [] rfl (by decide) dJ0_isLatin1_aae02_18 hlocks hQ

def v_c_coder : List Cond := .code yJ0_coder_7d493 cJ0_coder_7d493 1 (some .byte) :: [.fieldLink RJ0 38 "java/lang/String" "COMPACT_STRINGS" "Z", .fieldLink RJ0 15 "java/lang/String" "coder" "B"]
set_option maxHeartbeats 4000000 in
set_option maxRecDepth 100000 in
theorem c_coder (l : Launch) (D : va_G) (y : Nat → ClassId) (sz : Nat) (a9 v9 : Nat) (o9 : Option Nat)  : Met l yJ0_coder_7d493 v_c_coder ({ frames := 0, cells := 0, slots := 0, locals := 0 } : Room) (va_Pc [.ref a9] (fun U => xE a9 v9 o9 (va_A [] sz) U ∧ xPre D (xT y) [] sz U)) (va_Qi (fun (r : Int32) (_ : Unit) => r = 0) (fun (u : Unit) => xB D (xT y) (va_A [] sz) []) (va_A [] sz)) 0 0 (va_A [] sz) := by
  refine x_metiE (cc := cJ0_coder_7d493) (maxL := 1) (by decide) rfl (Nat.le_of_ble_eq_true rfl) ?_
  intro p e s m below meth c A H locs Q hx hb hml hown hts hr hlocks hmn hA hP hK hD hS ls hl hQ hE
  have hl : lv_has ls 1 [(0, .ref a9)] := hl
  have fl38 := hts (.fieldLink RJ0 38 "java/lang/String" "COMPACT_STRINGS" "Z") (List.mem_of_getElem? (i := 1) rfl)
  have fl15 := hts (.fieldLink RJ0 15 "java/lang/String" "coder" "B") (List.mem_of_getElem? (i := 2) rfl)
  refine va_gets hx hb hE.2.2.1 hS hown fl38 (fun _ h9 => h9) dJ0_coder_7d493_0 ?_
  refine lv_if_eq (tgt := 13) hx hb dJ0_coder_7d493_3 (by decide) (fun c_1 => ?_) (fun c_1 => ?_)
  · exact absurd c_1 (by decide)
  · refine lv_aload_n hx hb dJ0_coder_7d493_6 rfl (lv_at hl 0 rfl) ?_
    refine vk_getf hx hb (hE.2.1.1 0 (by decide)).2.1 hS hown fl15 (fun _ h9 => h9) dJ0_coder_7d493_7 ?_
    refine lv_goto (tgt := 14) hx hb dJ0_coder_7d493_10 (by decide) ?_
    exact x_zret (v := 0) (u := ()) hx hb hr rfl rfl hP hD hK hS [] rfl (by decide) dJ0_coder_7d493_14 hlocks hQ

def v_c_slength : List Cond := .code yJ0_length_8abf5 cJ0_length_8abf5 1 (some .int) :: ([.fieldLink RJ0 9 "java/lang/String" "value" "[B"] ++ (wsV RJ0 335 RJ0 yJ0_coder_7d493 v_c_coder))
theorem g_c_slength_0 : GoodIn v_c_slength (wsV RJ0 335 RJ0 yJ0_coder_7d493 v_c_coder) := goodIn_sub (fun w h => List.mem_cons_of_mem _ (List.mem_append_right _ h)) (by decide +kernel)
set_option maxHeartbeats 4000000 in
set_option maxRecDepth 100000 in
theorem c_slength (l : Launch) (D : va_G) (y : Nat → ClassId) (sz : Nat) (a9 v9 : Nat) (o9 : Option Nat)  : Met l yJ0_length_8abf5 v_c_slength ({ frames := 1, cells := 0, slots := 0, locals := 20 } : Room) (va_Pc [.ref a9] (fun U => xE a9 v9 o9 (va_A [] sz) U ∧ xPre D (xT y) [] sz U)) (va_Qi (fun (r : Int32) (_ : Unit) => r = 60) (fun (u : Unit) => xB D (xT y) (va_A [] sz) []) (va_A [] sz)) 0 0 (va_A [] sz) := by
  refine x_metiE (cc := cJ0_length_8abf5) (maxL := 1) (by decide) rfl (Nat.le_of_ble_eq_true rfl) ?_
  intro p e s m below meth c A H locs Q hx hb hml hown hts hr hlocks hmn hA hP hK hD hS ls hl hQ hE
  have hl : lv_has ls 1 [(0, .ref a9)] := hl
  have fl9 := hts (.fieldLink RJ0 9 "java/lang/String" "value" "[B") (List.mem_of_getElem? (i := 1) rfl)
  refine lv_aload_n hx hb dJ0_length_8abf5_0 rfl (lv_at hl 0 rfl) ?_
  refine vk_getf hx hb (hE.2.1.1 0 (by decide)).2.2.1 hS hown fl9 (fun _ h9 => h9) dJ0_length_8abf5_1 ?_
  refine va_tlen hx hb (v := 60) (hE.2.1.1 0 (by decide)).2.2.2 hS rfl dJ0_length_8abf5_4 ?_
  refine lv_aload_n hx hb dJ0_length_8abf5_5 rfl (lv_at hl 0 rfl) ?_
  refine x_calli (w1 := fun (u : Unit) => []) (wr := []) (ws' := fun (u : Unit) => []) (va_runV (As := []) (rest := [.int 60]) ⟨hx, hb, hml, hown, hts⟩ (c_coder l D y H.size a9 v9 o9 ) (cwV 0 hts g_c_slength_0 rfl rfl rfl (by decide +kernel) ⟨Nat.le_of_ble_eq_true rfl, Nat.le_of_ble_eq_true rfl⟩) (x_preVT (H := H) hK (x_subP hP [] rfl) (x_subD hD [] rfl (by decide)) hE hS (va_free hD hS hA [] rfl)) rfl rfl hl.1 rfl (lv_room (Nat.le_of_ble_eq_true rfl)) dJ0_length_8abf5_6 ⟨Nat.le_of_ble_eq_true rfl, Nat.le_of_ble_eq_true rfl⟩) hP hD hS hA [] [] rfl rfl (by decide) (by decide) [] (fun _ => rfl) (by decide) (fun r_1 u H locs hw hP hD hS => ?_)
  try dsimp only at hw
  obtain rfl : r_1 = 0 := hw
  have hP : va_P D vwCl [] H := hP
  have hD : va_D A [] := hD
  refine lv_ishr hx hb dJ0_length_8abf5_9 ?_
  refine lv_topi (fun i_2 ei_2 => ?_)
  obtain rfl : i_2 = 60 := ei_2.trans (by decide)
  exact x_iret (v := 60) (u := ()) hx hb hr rfl hP hD hK hS [] rfl (by decide) dJ0_length_8abf5_10 hlocks hQ

def v_c_scharAt : List Cond := .code yJ0_charAt_5068e cJ0_charAt_5068e 2 (some .char) :: ([.fieldLink RJ0 9 "java/lang/String" "value" "[B"] ++ ((wsV RJ0 492 RJ0 yJ0_isLatin1_aae02 v_c_latin) ++ (va_wsS RJ0 495 yJ1_charAt_3b067 v_c_lcharAt)))
theorem g_c_scharAt_0 : GoodIn v_c_scharAt (wsV RJ0 492 RJ0 yJ0_isLatin1_aae02 v_c_latin) := goodIn_sub (fun w h => List.mem_cons_of_mem _ (List.mem_append_right _ (List.mem_append_left _ h))) (by decide +kernel)
theorem g_c_scharAt_1 : GoodIn v_c_scharAt (va_wsS RJ0 495 yJ1_charAt_3b067 v_c_lcharAt) := goodIn_sub (fun w h => List.mem_cons_of_mem _ (List.mem_append_right _ (List.mem_append_right _ h))) (by decide +kernel)
set_option maxHeartbeats 4000000 in
set_option maxRecDepth 100000 in
theorem c_scharAt (l : Launch) (D : va_G) (y : Nat → ClassId) (sz : Nat) (a9 v9 : Nat) (o9 : Option Nat) (i : Int32) (hi0 : 0 ≤ i.toInt) (hi1 : i.toInt < 60) : Met l yJ0_charAt_5068e v_c_scharAt ({ frames := 3, cells := 0, slots := 0, locals := 64 } : Room) (va_Pc [.ref a9, .int i] (fun U => xE a9 v9 o9 (va_A [] sz) U ∧ xPre D (xT y) [] sz U)) (va_Qi (fun (_ : Int32) (_ : Unit) => True) (fun (u : Unit) => xB D (xT y) (va_A [] sz) []) (va_A [] sz)) 0 0 (va_A [] sz) := by
  refine x_metiE (cc := cJ0_charAt_5068e) (maxL := 2) (by decide) rfl (Nat.le_of_ble_eq_true rfl) ?_
  intro p e s m below meth c A H locs Q hx hb hml hown hts hr hlocks hmn hA hP hK hD hS ls hl hQ hE
  have hl : lv_has ls 2 [(0, .ref a9), (1, .int i)] := hl
  have fl9 := hts (.fieldLink RJ0 9 "java/lang/String" "value" "[B") (List.mem_of_getElem? (i := 1) rfl)
  refine lv_aload_n hx hb dJ0_charAt_5068e_0 rfl (lv_at hl 0 rfl) ?_
  refine x_calli (w1 := fun (u : Unit) => []) (wr := []) (ws' := fun (u : Unit) => []) (va_runV (As := []) (rest := []) ⟨hx, hb, hml, hown, hts⟩ (c_latin l D y H.size a9 v9 o9 ) (cwV 0 hts g_c_scharAt_0 rfl rfl rfl (by decide +kernel) ⟨Nat.le_of_ble_eq_true rfl, Nat.le_of_ble_eq_true rfl⟩) (x_preVT (H := H) hK (x_subP hP [] rfl) (x_subD hD [] rfl (by decide)) hE hS (va_free hD hS hA [] rfl)) rfl rfl hl.1 rfl (lv_room (Nat.le_of_ble_eq_true rfl)) dJ0_charAt_5068e_1 ⟨Nat.le_of_ble_eq_true rfl, Nat.le_of_ble_eq_true rfl⟩) hP hD hS hA [] [] rfl rfl (by decide) (by decide) [] (fun _ => rfl) (by decide) (fun r_1 u H locs hw hP hD hS => ?_)
  try dsimp only at hw
  obtain rfl : r_1 = 1 := hw
  have hP : va_P D vwCl [] H := hP
  have hD : va_D A [] := hD
  refine lv_if_eq (tgt := 16) hx hb dJ0_charAt_5068e_4 (by decide) (fun c_2 => ?_) (fun c_2 => ?_)
  · exact absurd c_2 (by decide)
  · refine lv_aload_n hx hb dJ0_charAt_5068e_7 rfl (lv_at hl 0 rfl) ?_
    refine vk_getf hx hb (hE.2.1.1 0 (by decide)).2.2.1 hS hown fl9 (fun _ h9 => h9) dJ0_charAt_5068e_8 ?_
    refine lv_iload_n hx hb dJ0_charAt_5068e_11 rfl (lv_at hl 1 rfl) ?_
    refine x_calli (w1 := fun (u : Unit) => []) (wr := []) (ws' := fun (u : Unit) => []) (va_runS (As := [.ref v9, .int i]) (rest := []) ⟨hx, hb, hml, hown, hts⟩ (c_lcharAt l D y H.size a9 v9 o9 i hi0 hi1) (va_cwS 2 hts g_c_scharAt_1 rfl rfl rfl (by decide +kernel) ⟨Nat.le_of_ble_eq_true rfl, Nat.le_of_ble_eq_true rfl⟩) (x_preSE hK (x_subP hP [] rfl) (x_subD hD [] rfl (by decide)) hE hS (va_free hD hS hA [] rfl)) rfl rfl hl.1 rfl (lv_room (Nat.le_of_ble_eq_true rfl)) dJ0_charAt_5068e_12 ⟨Nat.le_of_ble_eq_true rfl, Nat.le_of_ble_eq_true rfl⟩) hP hD hS hA [] [] rfl rfl (by decide) (by decide) [] (fun _ => rfl) (by decide) (fun r_3 u H locs hw hP hD hS => ?_)
    try dsimp only at hw
    have hP : va_P D vwCl [] H := hP
    have hD : va_D A [] := hD
    exact x_zret (v := r_3) (u := ()) hx hb hr hw trivial hP hD hK hS [] rfl (by decide) dJ0_charAt_5068e_15 hlocks hQ

def v_c_joined : List Cond := .code yX10_joined cX10_joined 3 (some .long) :: []
set_option maxHeartbeats 4000000 in
set_option maxRecDepth 100000 in
theorem c_joined (l : Launch) (D : va_G) (y : Nat → ClassId) (sz : Nat) (x : Int64) (k : Int32) : Met l yX10_joined v_c_joined ({ frames := 0, cells := 0, slots := 0, locals := 0 } : Room) (va_Pc [.long x, .int k] (xPre D (xT y) [] sz)) (va_Ql (fun (_ : Int64) (_ : Unit) => True) (fun (u : Unit) => xB D (xT y) (va_A [] sz) []) (va_A [] sz)) 0 0 (va_A [] sz) := by
  refine x_metl (cc := cX10_joined) (maxL := 3) (by decide) rfl (Nat.le_of_ble_eq_true rfl) ?_
  intro p e s m below meth c A H locs Q hx hb hml hown hts hr hlocks hmn hA hP hK hD hS ls hl hQ
  have hl : lv_has ls 3 [(0, .long x), (2, .int k)] := hl
  refine lv_lload_n hx hb dX10_joined_0 rfl (lv_at hl 0 rfl) ?_
  refine lv_bipush (v := 8) hx hb dX10_joined_1 (by decide) ?_
  refine lv_lshl hx hb dX10_joined_3 rfl ?_
  refine lv_topl (fun j_1 ej_1 => ?_)
  refine lv_iload_n hx hb dX10_joined_4 rfl (lv_at hl 1 rfl) ?_
  refine lv_i2l hx hb dX10_joined_5 rfl ?_
  refine lv_topl (fun j_2 ej_2 => ?_)
  have vj_2 : j_2.toInt = k.toInt := by rw [ej_2]; exact Int32.toInt_toInt64 _
  refine lv_lor hx hb dX10_joined_6 ?_
  refine lv_topl (fun j_3 ej_3 => ?_)
  exact x_lret (v := j_3) (u := ()) hx hb hr trivial hP hD hK hS [] rfl (by decide) dX10_joined_7 hlocks hQ


