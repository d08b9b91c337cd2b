theorem wr_4 {v : Int32} (i0 : 0 ≤ v.toInt) (c : ¬ (4 : Int32) ≤ v) : (v + (1 : Int32)).toInt ≤ 4 := by
  have z4 : (4 : Int32).toInt = 4 := by decide
  have := i_nle c
  rw [ad1 (by omega)]; omega
theorem wr_p {v : Int32} {a : Int} (i0 : 0 ≤ v.toInt) (c : ¬ (4 : Int32) ≤ v) (p : a ≤ 76 + v.toInt) : a ≤ 75 + (v + (1 : Int32)).toInt := by
  have z4 : (4 : Int32).toInt = 4 := by decide
  have := i_nle c
  rw [ad1 (by omega)]; omega
theorem wr_m {v : Int32} (c : ¬ v < 0) : -1 ≤ (v + (-1 : Int32)).toInt := by
  have z0 : (0 : Int32).toInt = 0 := by decide
  have := i_nlt c
  rw [dc1 (by omega)]; omega
theorem wr_q {v : Int32} {a b : Int} (c : ¬ v < 0) (p : a + 9 * v.toInt ≤ 63) (h : b ≤ a + 9) : b + 9 * (v + (-1 : Int32)).toInt ≤ 63 := by
  have z0 : (0 : Int32).toInt = 0 := by decide
  have := i_nlt c
  rw [dc1 (by omega)]; omega
