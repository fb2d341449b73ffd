/-! numbers -/
theorem fb_rng (x : Int32) : -2147483648 ≤ x.toInt ∧ x.toInt < 2147483648 := by
  have h1 := Int32.le_toInt x
  have h2 := Int32.toInt_lt x
  omega
theorem fa_lt (a b : Int32) : a < b ↔ a.toInt < b.toInt := Int32.lt_iff_toInt_lt
theorem fa_le (a b : Int32) : a ≤ b ↔ a.toInt ≤ b.toInt := Int32.le_iff_toInt_le
theorem fa_eq (a b : Int32) : a = b ↔ a.toInt = b.toInt := Int32.toInt_inj.symm
theorem q_add (x y : Int32) : (x + y).toInt = if x.toInt + y.toInt < -2147483648 then x.toInt + y.toInt + 4294967296 else if 2147483648 ≤ x.toInt + y.toInt then x.toInt + y.toInt - 4294967296 else x.toInt + y.toInt := by
  have h1 := fb_rng x
  have h2 := fb_rng y
  rw [Int32.toInt_add, Int.bmod_def]
  omega
theorem q_sub (x y : Int32) : (x - y).toInt = if x.toInt - y.toInt < -2147483648 then x.toInt - y.toInt + 4294967296 else if 2147483648 ≤ x.toInt - y.toInt then x.toInt - y.toInt - 4294967296 else x.toInt - y.toInt := by
  have h1 := fb_rng x
  have h2 := fb_rng y
  rw [Int32.toInt_sub, Int.bmod_def]
  omega
theorem fb_bmod {z : Int} (h1 : -2147483648 ≤ z) (h2 : z < 2147483648) : z.bmod (2 ^ 32) = z := by
  rw [Int.bmod_eq_of_le (by omega) (by omega)]
theorem q_mulc (x y : Int32) (h1 : -2147483648 ≤ x.toInt * y.toInt) (h2 : x.toInt * y.toInt < 2147483648) : (x * y).toInt = x.toInt * y.toInt := by
  rw [Int32.toInt_mul, fb_bmod h1 h2]
theorem q_ite (c : Prop) [Decidable c] (x y : Int32) : (if c then x else y).toInt = if c then x.toInt else y.toInt := by split <;> rfl
theorem fb_cl {x : Int32} (h : 0 ≤ x.toInt) : Int32.toNatClampNeg x = x.toInt.toNat := rfl
