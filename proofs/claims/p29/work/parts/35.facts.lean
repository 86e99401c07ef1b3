theorem zSuc {x : Int32} (h : vp_in x 12) : 0 ≤ (x + 1).toInt := by
  rw [vp_in_iff] at h
  rw [Int32.toInt_add, show (1 : Int32).toInt = 1 from rfl, Int.bmod_eq_of_le (by omega) (by omega)]
  omega
