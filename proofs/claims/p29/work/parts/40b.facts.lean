/-! small facts on numbers -/
theorem zNe12 {x : Int32} (h0 : 0 ≤ x.toInt) (h1 : x.toInt ≤ 12) (h2 : ¬ x = 12) : vp_in x 12 := by
  have h3 : x.toInt ≠ 12 := fun h => h2 (zEq_of_toInt h)
  exact zin_b h0 (by omega)
theorem zNe6 {x : Int32} (h0 : 0 ≤ x.toInt) (h1 : x.toInt ≤ 6) (h2 : ¬ x = 6) : vp_in x 6 := by
  have h3 : x.toInt ≠ 6 := fun h => h2 (zEq_of_toInt h)
  exact zin_b h0 (by omega)
theorem zNx0 {x : Int32} (h : vp_in x 12) : 0 ≤ x.toInt := (vp_in_iff.mp h).1
theorem zNx1 {x y : Int32} (h : vp_in x 12) (hy : y = 0 ∨ y = 1) : 0 ≤ (x + y).toInt := by
  rcases hy with rfl | rfl
  · rw [Int32.add_zero]; exact zNx0 h
  · exact zSuc h
theorem zCmp (x : Int64) : lg_cmp x x = 0 := by
  unfold lg_cmp; simp
theorem zAnd1 (x : Int32) : x &&& 1 = 0 ∨ x &&& 1 = 1 := by
  have h := vp_in_iff.mp (pk_andIn x (m := 1) 1 rfl (by decide))
  have e0 : (0 : Int32).toInt = 0 := rfl
  have e1 : (1 : Int32).toInt = 1 := rfl
  have h2 : (x &&& 1).toInt = 0 ∨ (x &&& 1).toInt = 1 := by
    have h3 : (x &&& 1) = (x &&& 1) := rfl
    omega
  rcases h2 with h2 | h2
  · exact Or.inl (Int32.toInt_inj.mp (by rw [h2, e0]))
  · exact Or.inr (Int32.toInt_inj.mp (by rw [h2, e1]))
theorem zUpS (f : Nat → Int32) (k : Nat) : upd f k (f k) = f := by
  funext j; unfold upd; split
  · next h => rw [h]
  · rfl
theorem zUpK (f : Nat → Int32) (k : Nat) (v : Int32) : upd f k v k = v := by
  unfold upd; simp
theorem zs12 {x : Int32} (h : x.toInt ≤ 12) : x = 12 ↔ ¬ x < 12 := by
  have e1 : (12 : Int32).toInt = 12 := rfl
  rw [Int32.lt_iff_toInt_lt, e1]
  constructor
  · intro h1; rw [h1]; decide
  · intro h1; exact Int32.toInt_inj.mp (by omega)
theorem zs6 {x : Int32} (h : x.toInt ≤ 6) : x = 6 ↔ ¬ x < 6 := by
  have e1 : (6 : Int32).toInt = 6 := rfl
  rw [Int32.lt_iff_toInt_lt, e1]
  constructor
  · intro h1; rw [h1]; decide
  · intro h1; exact Int32.toInt_inj.mp (by omega)
