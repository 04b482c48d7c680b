theorem l2iI {y : Int64} (h1 : -2147483648 ≤ y.toInt) (h2 : y.toInt ≤ 2147483647) : y.toInt32.toInt = y.toInt := by
  rw [Int64.toInt_toInt32]
  exact Int.bmod_eq_of_le (by omega) (by omega)
