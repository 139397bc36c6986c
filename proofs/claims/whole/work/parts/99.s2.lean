theorem l_mul {x y : Int64} (h1 : -9223372036854775808 ≤ x.toInt * y.toInt) (h2 : x.toInt * y.toInt < 9223372036854775808) : (x * y).toInt = x.toInt * y.toInt := by
  rw [Int64.toInt_mul]; exact Int.bmod_eq_of_le (by omega) (by omega)
theorem l_sub {x y : Int64} (h1 : -9223372036854775808 ≤ x.toInt - y.toInt) (h2 : x.toInt - y.toInt < 9223372036854775808) : (x - y).toInt = x.toInt - y.toInt := by
  rw [Int64.toInt_sub]; exact Int.bmod_eq_of_le (by omega) (by omega)
theorem l_div {x y : Int64} (h1 : 0 ≤ x.toInt) (h2 : 0 < y.toInt) : (x / y).toInt = x.toInt / y.toInt := by
  rw [Int64.toInt_div, Int.tdiv_eq_ediv_of_nonneg h1]
  have a : 0 ≤ x.toInt / y.toInt := Int.ediv_nonneg h1 (by omega)
  have b : x.toInt / y.toInt ≤ x.toInt := Int.ediv_le_self _ h1
  have c := x.toInt_lt
  exact Int.bmod_eq_of_le (by omega) (by omega)
theorem l_mod {x y : Int64} (h1 : 0 ≤ x.toInt) (h2 : 0 < y.toInt) : (x - x / y * y).toInt = x.toInt % y.toInt := by
  have c := x.toInt_lt
  have d := l_div h1 h2
  have e := Int.ediv_mul_le x.toInt (b := y.toInt) (by omega)
  have f : 0 ≤ x.toInt / y.toInt * y.toInt := Int.mul_nonneg (Int.ediv_nonneg h1 (by omega)) (by omega)
  have g : (x / y * y).toInt = x.toInt / y.toInt * y.toInt := by rw [l_mul, d] <;> rw [d] <;> omega
  rw [l_sub (by rw [g]; omega) (by rw [g]; omega), g, Int.emod_def, Int.mul_comm]
theorem i_div {x y : Int32} (h1 : 0 ≤ x.toInt) (h2 : 0 < y.toInt) : (x / y).toInt = x.toInt / y.toInt := by
  rw [Int32.toInt_div, Int.tdiv_eq_ediv_of_nonneg h1]
  have a : 0 ≤ x.toInt / y.toInt := Int.ediv_nonneg h1 (by omega)
  have b : x.toInt / y.toInt ≤ x.toInt := Int.ediv_le_self _ h1
  have c := x.toInt_lt
  exact Int.bmod_eq_of_le (by omega) (by omega)
theorem i_mod {x y : Int32} (h1 : 0 ≤ x.toInt) (h2 : 0 < y.toInt) : (x - x / y * y).toInt = x.toInt % y.toInt := by
  have c := x.toInt_lt
  have d := i_div h1 h2
  have e := Int.ediv_mul_le x.toInt (b := y.toInt) (by omega)
  have f : 0 ≤ x.toInt / y.toInt * y.toInt := Int.mul_nonneg (Int.ediv_nonneg h1 (by omega)) (by omega)
  have g : (x / y * y).toInt = x.toInt / y.toInt * y.toInt := by rw [i_mul, d] <;> rw [d] <;> omega
  rw [i_sub (by rw [g]; omega) (by rw [g]; omega), g, Int.emod_def, Int.mul_comm]
theorem dr_ok {x : Int32} (h1 : 0 ≤ x.toInt) (h2 : x.toInt < 2147483647) : ∃ d : Int32, (dr x.toInt64) = d.toInt64 ∧ ((16807 : Int64) * x.toInt64 - (16807 : Int64) * x.toInt64 / (2147483647 : Int64) * (2147483647 : Int64)).toInt32 = d ∧ (0 ≤ d.toInt ∧ d.toInt < 2147483647) ∧ ∀ D : Int64, D = d.toInt64 → (D - D / 10 * 10).toInt32 = d - d / 10 * 10 := by
  have e1 : x.toInt64.toInt = x.toInt := Int32.toInt_toInt64 x
  have k1 : (16807 : Int64).toInt = 16807 := rfl
  have k2 : (2147483647 : Int64).toInt = 2147483647 := rfl
  have e2 : (x.toInt64 * 16807).toInt = x.toInt * 16807 := by rw [l_mul, e1, k1] <;> rw [e1, k1] <;> omega
  have e3 : (dr x.toInt64).toInt = x.toInt * 16807 % 2147483647 := by
    unfold dr
    rw [l_mod (by rw [e2]; omega) (by rw [k2]; omega), e2, k2]
  have e4 : (16807 : Int64) * x.toInt64 = x.toInt64 * 16807 := Int64.mul_comm _ _
  have e5 : (dr x.toInt64).toInt32.toInt = (dr x.toInt64).toInt := by
    rw [Int64.toInt_toInt32, e3]; exact Int.bmod_eq_of_le (by omega) (by omega)
  have e6 : (dr x.toInt64).toInt32.toInt64 = dr x.toInt64 := by
    rw [← Int64.toInt_inj, Int32.toInt_toInt64, e5]
  refine ⟨(dr x.toInt64).toInt32, e6.symm, by rw [e4]; rfl, by rw [e5, e3]; omega, fun D hD => ?_⟩
  rw [e6] at hD
  subst hD
  have k3 : (10 : Int64).toInt = 10 := rfl
  have k4 : (10 : Int32).toInt = 10 := rfl
  have e7 : (dr x.toInt64 - dr x.toInt64 / 10 * 10).toInt = (dr x.toInt64).toInt % 10 := by rw [l_mod (by rw [e3]; omega) (by rw [k3]; omega), k3]
  rw [i_eq, i_mod (by rw [e5, e3]; omega) (by rw [k4]; omega), k4, e5, Int64.toInt_toInt32, e7]
  clear e7 e6 e5 e4 e3 e2
  generalize (dr x.toInt64).toInt = y
  have a : 0 ≤ y % 10 := Int.emod_nonneg _ (by decide)
  have b : y % 10 < 10 := Int.emod_lt_of_pos _ (by decide)
  generalize y % 10 = z at a b
  exact Int.bmod_eq_of_le (by omega) (by omega)
