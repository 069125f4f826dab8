theorem mm_t1 : (-1 : Int32).toInt = -1 := by decide
theorem mm_t2 : (-2 : Int32).toInt = -2 := by decide
theorem mm_t3 : (-3 : Int32).toInt = -3 := by decide
theorem mm_t4 : (-4 : Int32).toInt = -4 := by decide
theorem mm_t10 : (-10 : Int32).toInt = -10 := by decide
theorem mm_cl {x : Int32} (h : 0 ≤ x.toInt) : (x.toNatClampNeg : Int) = x.toInt := Int.toNat_of_nonneg h
theorem mm_nc {x : Int32} (h : 0 ≤ x.toInt) : x = nI x.toNatClampNeg := by
  apply Int32.toInt_inj.mp
  have h1 := mm_cl h
  have h2 : x.toInt < 2 ^ 31 := Int32.toInt_lt x
  rw [nI_toInt (by omega)]
  exact h1.symm
theorem mm_cn {n : Nat} (h : n < 2147483648) : (nI n).toNatClampNeg = n := nI_clamp h
theorem mm_ti {n : Nat} (h : n < 2147483648) : (nI n).toInt = n := nI_toInt h
theorem mm_add {a b : Int32} (h : -2147483648 ≤ a.toInt + b.toInt ∧ a.toInt + b.toInt < 2147483648) : (a + b).toInt = a.toInt + b.toInt := by
  rw [Int32.toInt_add]
  rw [Int.bmod_eq_of_le] <;> omega
theorem mm_sub {a b : Int32} (h : -2147483648 ≤ a.toInt - b.toInt ∧ a.toInt - b.toInt < 2147483648) : (a - b).toInt = a.toInt - b.toInt := by
  rw [Int32.toInt_sub]
  rw [Int.bmod_eq_of_le] <;> omega
theorem mm_mul {a b : Int32} (h : -2147483648 ≤ a.toInt * b.toInt ∧ a.toInt * b.toInt < 2147483648) : (a * b).toInt = a.toInt * b.toInt := by
  rw [Int32.toInt_mul]
  rw [Int.bmod_eq_of_le] <;> omega
theorem mm_bd (x : Int32) : -2147483648 ≤ x.toInt ∧ x.toInt < 2147483648 := ⟨Int32.le_toInt x, Int32.toInt_lt x⟩
theorem mm_upc (M : mm_M) (c f : Nat) (v : Int32) : mm_up M c f v c = upd (M c) f v := by simp [mm_up, va_up]
theorem mm_upn (M : mm_M) {c c' : Nat} (f : Nat) (v : Int32) (h : c' ≠ c) : mm_up M c f v c' = M c' := by simp [mm_up, va_up, h]
theorem mm_upv (M : mm_M) (c f : Nat) (v : Int32) : mm_up M c f v c f = v := by simp [mm_up, va_up, upd]
