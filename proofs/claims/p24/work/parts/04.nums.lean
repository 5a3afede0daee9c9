/-! longs, by their integers -/
theorem x_addL {x y z : Int64} (h : z = x + y) (h1 : -9223372036854775808 ≤ x.toInt + y.toInt) (h2 : x.toInt + y.toInt < 9223372036854775808) : z.toInt = x.toInt + y.toInt := by
  rw [h, Int64.toInt_add]
  exact Int.bmod_eq_of_le (by omega) (by omega)
theorem x_subL {x y z : Int64} (h : z = x - y) (h1 : -9223372036854775808 ≤ x.toInt - y.toInt) (h2 : x.toInt - y.toInt < 9223372036854775808) : z.toInt = x.toInt - y.toInt := by
  rw [h, Int64.toInt_sub]
  exact Int.bmod_eq_of_le (by omega) (by omega)
theorem x_negL {x z : Int64} (h : z = -x) (h1 : -9223372036854775808 < x.toInt) : z.toInt = -x.toInt := by
  have h2 := Int64.toInt_lt x
  rw [h, Int64.toInt_neg]
  exact Int.bmod_eq_of_le (by omega) (by omega)
theorem x_mulA {a d : Int} {A B : Int} (h1 : -A ≤ a) (h2 : a ≤ A) (h3 : -B ≤ d) (h4 : d ≤ B) : -(A * B) ≤ a * d ∧ a * d ≤ A * B := by
  have e : (a * d).natAbs = a.natAbs * d.natAbs := Int.natAbs_mul a d
  have g1 : a.natAbs ≤ A.toNat := by omega
  have g2 : d.natAbs ≤ B.toNat := by omega
  have g3 : a.natAbs * d.natAbs ≤ A.toNat * B.toNat := Nat.mul_le_mul g1 g2
  have hA : 0 ≤ A := by omega
  have hB : 0 ≤ B := by omega
  have g4 : ((A.toNat * B.toNat : Nat) : Int) = A * B := by rw [Int.natCast_mul, Int.toNat_of_nonneg hA, Int.toNat_of_nonneg hB]
  omega
theorem x_mulB {a d z : Int64} (h : z = a * d) (h1 : -1000000000 ≤ a.toInt) (h2 : a.toInt ≤ 1000000000) (h3 : -1000000000 ≤ d.toInt) (h4 : d.toInt ≤ 1000000000) : -1000000000000000000 ≤ z.toInt ∧ z.toInt ≤ 1000000000000000000 ∧ z.toInt = a.toInt * d.toInt := by
  have g := x_mulA (A := 1000000000) (B := 1000000000) (by omega) (by omega) (by omega) (by omega) (a := a.toInt) (d := d.toInt)
  have e : z.toInt = a.toInt * d.toInt := by
    rw [h, Int64.toInt_mul]
    exact Int.bmod_eq_of_le (by omega) (by omega)
  omega
theorem x_remL {x y z : Int64} (h : z = x - x / y * y) (h1 : 0 ≤ x.toInt) (h2 : 0 < y.toInt) : 0 ≤ z.toInt ∧ z.toInt < y.toInt := by
  have b2 := Int64.toInt_lt x
  have q0 : 0 ≤ x.toInt / y.toInt := Int.ediv_nonneg h1 (by omega)
  have q1 : x.toInt / y.toInt ≤ x.toInt := Int.ediv_le_self _ h1
  have e1 : (x / y).toInt = x.toInt / y.toInt := by
    rw [Int64.toInt_div, Int.tdiv_eq_ediv_of_nonneg h1]
    exact Int.bmod_eq_of_le (by omega) (by omega)
  have m1 := Int.mul_ediv_add_emod x.toInt y.toInt
  have m2 := Int.emod_nonneg x.toInt (show y.toInt ≠ 0 by omega)
  have m3 := Int.emod_lt_of_pos x.toInt h2
  have m4 : 0 ≤ y.toInt * (x.toInt / y.toInt) := Int.mul_nonneg (by omega) q0
  have e2 : (x / y * y).toInt = y.toInt * (x.toInt / y.toInt) := by
    rw [Int64.toInt_mul, e1, Int.mul_comm]
    exact Int.bmod_eq_of_le (by omega) (by omega)
  have e3 : z.toInt = x.toInt - y.toInt * (x.toInt / y.toInt) := by
    rw [h, Int64.toInt_sub, e2]
    exact Int.bmod_eq_of_le (by omega) (by omega)
  omega
theorem x_tdn {a b : Int} (h : a ≤ 0) (h2 : 0 ≤ b) : a.tdiv b ≤ 0 := by
  have g := Int.tdiv_nonneg (show 0 ≤ -a by omega) h2
  rw [Int.neg_tdiv] at g
  omega
theorem x_divL {x y z : Int64} (h : z = x / y) (h1 : 1 ≤ y.toInt) : (0 ≤ x.toInt → 0 ≤ z.toInt ∧ z.toInt ≤ x.toInt) ∧ (x.toInt ≤ 0 → x.toInt ≤ z.toInt ∧ z.toInt ≤ 0) := by
  have b1 := Int64.le_toInt x
  have b2 := Int64.toInt_lt x
  have e : z.toInt = x.toInt.tdiv y.toInt := by
    rw [h, Int64.toInt_div]
    have a1 : (x.toInt.tdiv y.toInt).natAbs ≤ x.toInt.natAbs := by
      rw [Int.natAbs_tdiv]
      exact Nat.div_le_self _ _
    have a3 : x.toInt ≤ 0 → x.toInt.tdiv y.toInt ≤ 0 := fun q => x_tdn q (by omega)
    exact Int.bmod_eq_of_le (by omega) (by omega)
  rw [e]
  have a1 : (x.toInt.tdiv y.toInt).natAbs ≤ x.toInt.natAbs := by
    rw [Int.natAbs_tdiv]
    exact Nat.div_le_self _ _
  refine ⟨fun q => ?_, fun q => ?_⟩
  · have := Int.tdiv_nonneg q (show 0 ≤ y.toInt by omega)
    omega
  · have := x_tdn q (show 0 ≤ y.toInt by omega)
    omega
theorem x_mulIl {x y z : Int32} {n : Int} (h : z = x * y) (hn : x.toInt = n) (h1 : -2147483648 ≤ n * y.toInt) (h2 : n * y.toInt < 2147483648) : z.toInt = n * y.toInt := by
  rw [h, Int32.toInt_mul, hn]
  exact Int.bmod_eq_of_le (by omega) (by omega)
theorem x_mulIr {x y z : Int32} {n : Int} (h : z = x * y) (hn : y.toInt = n) (h1 : -2147483648 ≤ n * x.toInt) (h2 : n * x.toInt < 2147483648) : z.toInt = n * x.toInt := by
  rw [h, Int32.toInt_mul, hn, Int.mul_comm]
  exact Int.bmod_eq_of_le (by omega) (by omega)
