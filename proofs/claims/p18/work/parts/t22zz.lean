theorem irem_eq (x y : Int32) : x - x / y * y = x % y := by
  apply Int32.toInt_inj.mp
  rw [Int32.toInt_sub, Int32.toInt_mul, Int32.toInt_div]
  have h1 : x.toInt - x.toInt.tdiv y.toInt * y.toInt = (x % y).toInt := by
    rw [Int32.toInt_mod]
    have := Int.tmod_add_mul_tdiv x.toInt y.toInt
    rw [Int.mul_comm y.toInt] at this
    omega
  have h2 : ((x.toInt - (((x.toInt.tdiv y.toInt).bmod (2 ^ 32)) * y.toInt).bmod (2 ^ 32)).bmod (2 ^ 32)) = (x.toInt - x.toInt.tdiv y.toInt * y.toInt).bmod (2 ^ 32) := by
    simp
  rw [h2, h1]
  exact Int.bmod_eq_of_le (by have := tI_lo (x % y); omega) (by have := tI_hi (x % y); omega)
theorem lrem_eq (x y : Int64) : x - x / y * y = x % y := by
  apply Int64.toInt_inj.mp
  rw [Int64.toInt_sub, Int64.toInt_mul, Int64.toInt_div]
  have h1 : x.toInt - x.toInt.tdiv y.toInt * y.toInt = (x % y).toInt := by
    rw [Int64.toInt_mod]
    have := Int.tmod_add_mul_tdiv x.toInt y.toInt
    rw [Int.mul_comm y.toInt] at this
    omega
  have h2 : ((x.toInt - (((x.toInt.tdiv y.toInt).bmod (2 ^ 64)) * y.toInt).bmod (2 ^ 64)).bmod (2 ^ 64)) = (x.toInt - x.toInt.tdiv y.toInt * y.toInt).bmod (2 ^ 64) := by
    simp
  rw [h2, h1]
  exact Int.bmod_eq_of_le (by have := Int64.le_toInt (x % y); omega) (by have := Int64.toInt_lt (x % y); omega)
