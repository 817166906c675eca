theorem l2i_small {x : Int64} {z : Int32} (e : z = x.toInt32) (h0 : 0 ≤ x.toInt) (h1 : x.toInt < 2147483648) : z.toInt = x.toInt := by
  rw [e, Int64.toInt_toInt32]
  exact Int.bmod_eq_of_le (by omega) (by omega)
theorem sub_toInt {x y z : Int32} (e : z = x - y) (h0 : 0 ≤ y.toInt) (h1 : y.toInt ≤ x.toInt) : z.toInt = x.toInt - y.toInt := by
  have h2 := Int32.toInt_lt x
  rw [e, Int32.toInt_sub]
  exact Int.bmod_eq_of_le (by omega) (by omega)
