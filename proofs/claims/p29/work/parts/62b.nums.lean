/-! quotients, remainders, places -/
theorem zdT {a b : Int32} (ha : 0 ≤ a.toInt) (hb : 0 < b.toInt) : (a / b).toInt = a.toInt / b.toInt := by
  rw [Int32.toInt_div, Int.tdiv_eq_ediv_of_nonneg ha]
  have h1 : 0 ≤ a.toInt / b.toInt := Int.ediv_nonneg ha (by omega)
  have h2 : a.toInt / b.toInt ≤ a.toInt := Int.ediv_le_self _ ha
  have h3 := Int32.toInt_lt a
  exact Int.bmod_eq_of_le (by omega) (by omega)
theorem zrT {a b : Int32} (ha : 0 ≤ a.toInt) (hb : 0 < b.toInt) : (zRem a b).toInt = a.toInt % b.toInt := by
  have h3 := Int32.toInt_lt a
  have h4 : 0 ≤ a.toInt % b.toInt := Int.emod_nonneg _ (by omega)
  have h5 : a.toInt % b.toInt = a.toInt - b.toInt * (a.toInt / b.toInt) := Int.emod_def _ _
  have h6 : 0 ≤ b.toInt * (a.toInt / b.toInt) := Int.mul_nonneg (by omega) (Int.ediv_nonneg ha (by omega))
  unfold zRem
  rw [Int32.toInt_sub, Int32.toInt_mul, zdT ha hb, Int.mul_comm (a.toInt / b.toInt)]
  generalize b.toInt * (a.toInt / b.toInt) = t at h5 h6
  generalize a.toInt % b.toInt = r at h4 h5
  have e1 : t.bmod (2 ^ 32) = t := Int.bmod_eq_of_le (by omega) (by omega)
  have e2 : (a.toInt - t).bmod (2 ^ 32) = a.toInt - t := Int.bmod_eq_of_le (by omega) (by omega)
  rw [e1, e2, h5]
theorem zaT {a b : Int32} (h0 : -2147483648 ≤ a.toInt + b.toInt) (h1 : a.toInt + b.toInt < 2147483648) : (a + b).toInt = a.toInt + b.toInt := by
  rw [Int32.toInt_add]
  exact Int.bmod_eq_of_le (by omega) (by omega)
theorem zsT {a b : Int32} (h0 : -2147483648 ≤ a.toInt - b.toInt) (h1 : a.toInt - b.toInt < 2147483648) : (a - b).toInt = a.toInt - b.toInt := by
  rw [Int32.toInt_sub]
  exact Int.bmod_eq_of_le (by omega) (by omega)
theorem zmT {a b : Int32} (h0 : -2147483648 ≤ a.toInt * b.toInt) (h1 : a.toInt * b.toInt < 2147483648) : (a * b).toInt = a.toInt * b.toInt := by
  rw [Int32.toInt_mul]
  exact Int.bmod_eq_of_le (by omega) (by omega)
theorem zmK {k b : Int32} {n : Int} (hk : k.toInt = n) (h0 : -2147483648 ≤ n * b.toInt) (h1 : n * b.toInt < 2147483648) : (k * b).toInt = n * b.toInt := by
  rw [Int32.toInt_mul, hk]
  exact Int.bmod_eq_of_le (by omega) (by omega)
theorem zdK {a b : Int32} {n : Int} (hb : b.toInt = n) (ha : 0 ≤ a.toInt) (hn : 0 < n) : (a / b).toInt = a.toInt / n := by
  rw [zdT ha (by omega), hb]
theorem zrK {a b : Int32} {n : Int} (hb : b.toInt = n) (ha : 0 ≤ a.toInt) (hn : 0 < n) : (zRem a b).toInt = a.toInt % n := by
  rw [zrT ha (by omega), hb]
theorem zin_le {x : Int32} {n m : Nat} (h : vp_in x n) (hm : n ≤ m) : vp_in x m := by
  have h1 := vp_in_iff.mp h
  exact zin_b (by omega) (by omega)
theorem zin_13 {x : Int32} (h : vp_in x 12) : vp_in x 13 := zin_le h (by decide)
theorem zin_67 {x : Int32} (h : vp_in x 6) : vp_in x 7 := zin_le h (by decide)
theorem zin_2449 {x : Int32} (h : vp_in x 24) : vp_in x 49 := zin_le h (by decide)
theorem zin_49 {x : Int32} (h : vp_in x 4) : vp_in x 9 := zin_le h (by decide)
theorem zi24 {i : Int32} (h : vp_in i 24) : vp_in ((24 : Int32) + i) 49 := by
  have h1 := vp_in_iff.mp h
  have e : (24 : Int32).toInt = 24 := rfl
  have e2 := zaT (a := 24) (b := i) (by omega) (by omega)
  exact zin_b (by omega) (by omega)
theorem zi4 {i : Int32} (h : vp_in i 4) : vp_in ((4 : Int32) + i) 9 := by
  have h1 := vp_in_iff.mp h
  have e : (4 : Int32).toInt = 4 := rfl
  have e2 := zaT (a := 4) (b := i) (by omega) (by omega)
  exact zin_b (by omega) (by omega)
theorem zi6 {i : Int32} (h : vp_in i 6) : vp_in ((6 : Int32) + i) 12 := by
  have h1 := vp_in_iff.mp h
  have e : (6 : Int32).toInt = 6 := rfl
  have e2 := zaT (a := 6) (b := i) (by omega) (by omega)
  exact zin_b (by omega) (by omega)
theorem zr4 {i : Int32} (h : vp_in i 24) : vp_in (zRem i (4 : Int32)) 4 := by
  have h1 := vp_in_iff.mp h
  have e : (4 : Int32).toInt = 4 := rfl
  have e2 := zrK (a := i) (b := 4) (n := 4) rfl (by omega) (by omega)
  exact zin_b (by omega) (by omega)
theorem zd4 {i : Int32} (h : vp_in i 24) : vp_in (i / (4 : Int32)) 6 := by
  have h1 := vp_in_iff.mp h
  have e : (4 : Int32).toInt = 4 := rfl
  have e2 := zdK (a := i) (b := 4) (n := 4) rfl (by omega) (by omega)
  exact zin_b (by omega) (by omega)
theorem z4mT {a w : Int32} (ha : vp_in a 6) (hw : vp_in w 4) : (((4 : Int32) * a) + w).toInt = 4 * a.toInt + w.toInt := by
  have h1 := vp_in_iff.mp ha
  have h2 := vp_in_iff.mp hw
  have e : (4 : Int32).toInt = 4 := rfl
  have e1 := zmK (k := 4) (n := 4) (b := a) rfl (by omega) (by omega)
  rw [zaT (by omega) (by omega), e1]
theorem zi4m {a w : Int32} (ha : vp_in a 6) (hw : vp_in w 4) : vp_in (((4 : Int32) * a) + w) 24 := by
  have h1 := vp_in_iff.mp ha
  have h2 := vp_in_iff.mp hw
  have e := z4mT ha hw
  exact zin_b (by omega) (by omega)
theorem z24mT {a w : Int32} (ha : vp_in a 6) (hw : vp_in w 4) : (((24 : Int32) + ((4 : Int32) * a)) + w).toInt = 24 + 4 * a.toInt + w.toInt := by
  have h1 := vp_in_iff.mp ha
  have h2 := vp_in_iff.mp hw
  have e : (4 : Int32).toInt = 4 := rfl
  have e0 : (24 : Int32).toInt = 24 := rfl
  have e1 := zmK (k := 4) (n := 4) (b := a) rfl (by omega) (by omega)
  have e2 := zaT (a := 24) (b := (4 : Int32) * a) (by omega) (by omega)
  rw [zaT (by omega) (by omega), e2, e1, e0]
theorem zi24m {a w : Int32} (ha : vp_in a 6) (hw : vp_in w 4) : vp_in (((24 : Int32) + ((4 : Int32) * a)) + w) 49 := by
  have h1 := vp_in_iff.mp ha
  have h2 := vp_in_iff.mp hw
  have e := z24mT ha hw
  exact zin_b (by omega) (by omega)
/-- a step as the law keeps it: 'kind', 'a', 'b' and 'what' can be read out of it -/
def zCg (x : Int32) : Prop := 0 ≤ x.toInt ∧ vp_in (zRem (x / (8 : Int32)) (8 : Int32)) 6 ∧ vp_in (zRem (x / (64 : Int32)) (8 : Int32)) 6 ∧ vp_in (x / (512 : Int32)) 4
theorem zlt0 {x : Int32} (h : 0 ≤ x.toInt) : ¬ x < 0 := by
  rw [Int32.lt_iff_toInt_lt]
  have e : (0 : Int32).toInt = 0 := rfl
  omega
theorem zMk {x : Int32} (h : vp_in x 6) : xX7_needMask x = 0 := by
  have h1 := vp_in_iff.mp h
  have h2 : x < (6 : Int32) := by
    rw [Int32.lt_iff_toInt_lt]
    have e : (6 : Int32).toInt = 6 := rfl
    omega
  unfold xX7_needMask
  rw [if_neg (zlt0 h1.1), if_pos h2]
theorem zSk {x : Int32} (h : vp_in x 4) : xX7_needSecret x = 0 := by
  have h1 := vp_in_iff.mp h
  have h2 : x < (4 : Int32) := by
    rw [Int32.lt_iff_toInt_lt]
    have e : (4 : Int32).toInt = 4 := rfl
    omega
  unfold xX7_needSecret
  rw [if_neg (zlt0 h1.1), if_pos h2]
theorem zPk {x : Int32} (h : vp_in x 4) : xX7_needProp x = 0 := zSk h
theorem zNk {ni li mi mv nx al nc nl on il ba i : Int32} {kb0 hb0 kn ho : Nat → Int32} (h0 : 0 ≤ i.toInt) (hc : ¬ (24 : Int32) ≤ i) : xX7_isKnown ni li mi mv nx al nc nl kb0 hb0 on il ba kn ho (i / (4 : Int32)) (zRem i (4 : Int32)) = 0 := by
  have hi : vp_in i 24 := zin_c h0 hc (by decide)
  unfold xX7_isKnown
  rw [if_pos (zMk (zd4 hi)), if_pos (zSk (zr4 hi))]
theorem zNh {ni li mi mv nx al nc nl on il ba i : Int32} {kb0 hb0 kn ho : Nat → Int32} (h0 : 0 ≤ i.toInt) (hc : ¬ (4 : Int32) ≤ i) : xX7_holder ni li mi mv nx al nc nl kb0 hb0 on il ba kn ho i = 0 := by
  have hi : vp_in i 4 := zin_c h0 hc (by decide)
  unfold xX7_holder
  rw [if_pos (zPk hi)]
