/-! what the reference's looks give -/
theorem zI8 {p a b : Int32} (h : ¬ rX8_isIn p a b = 0) : a.toInt ≤ p.toInt ∧ p.toInt ≤ b.toInt := by
  unfold rX8_isIn at h
  split at h
  · exact absurd rfl h
  · rename_i h1
    split at h
    · exact absurd rfl h
    · rename_i h2
      rw [Int32.lt_iff_toInt_lt] at h1 h2
      omega
theorem zS8 {p : Int32} (h : ¬ rX8_isSecret p = 0) : vp_in p 4 := by
  have h1 := zI8 h
  have e0 : (0 : Int32).toInt = 0 := rfl
  have e3 : (3 : Int32).toInt = 3 := rfl
  exact zin_b (by omega) (by omega)
theorem zP8 {p : Int32} (h : ¬ rX8_isProp p = 0) : vp_in p 4 := by
  have h1 := zI8 h
  have e0 : (0 : Int32).toInt = 0 := rfl
  have e3 : (3 : Int32).toInt = 3 := rfl
  exact zin_b (by omega) (by omega)
theorem zM8 {p : Int32} (h : ¬ rX8_isMask p = 0) : vp_in p 6 := by
  have h1 := zI8 h
  have e0 : (0 : Int32).toInt = 0 := rfl
  have e3 : (5 : Int32).toInt = 5 := rfl
  exact zin_b (by omega) (by omega)
theorem zG8 {p g : Int32} (h : ¬ rX8_isIn p 0 (g - 1) = 0) (h0 : 0 ≤ g.toInt) (h6 : g.toInt ≤ 6) : vp_in p 6 := by
  have h1 := zI8 h
  have e0 : (0 : Int32).toInt = 0 := rfl
  rw [Int32.toInt_sub, show (1 : Int32).toInt = 1 from rfl, Int.bmod_eq_of_le (by omega) (by omega)] at h1
  exact zin_b (by omega) (by omega)
theorem zNe12 {x : Int32} (h0 : 0 ≤ x.toInt) (h1 : x.toInt ≤ 12) (h2 : ¬ x = 12) : vp_in x 12 := by
  have h3 : x.toInt ≠ 12 := fun h => h2 (zEq_of_toInt h)
  exact zin_b h0 (by omega)
theorem zNe6 {x : Int32} (h0 : 0 ≤ x.toInt) (h1 : x.toInt ≤ 6) (h2 : ¬ x = 6) : vp_in x 6 := by
  have h3 : x.toInt ≠ 6 := fun h => h2 (zEq_of_toInt h)
  exact zin_b h0 (by omega)
theorem zNx0 {x : Int32} (h : vp_in x 12) : 0 ≤ x.toInt := (vp_in_iff.mp h).1
theorem zNx1 {x y : Int32} (h : vp_in x 12) (hy : y = 0 ∨ y = 1) : 0 ≤ (x + y).toInt := by
  rcases hy with rfl | rfl
  · rw [Int32.add_zero]; exact zNx0 h
  · exact zSuc h
