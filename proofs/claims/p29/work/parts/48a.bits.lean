/-! the way by trying: sets as bits -/
def yi (x : Int32) (m : Nat) : Prop := x.toBitVec.getLsbD m = true
def yb (x : Int64) (c : Nat) : Prop := x.toBitVec.getLsbD c = true
theorem yof {k : Int32} {n : Nat} (h : vp_in k n) : k = Int32.ofNat k.toNatClampNeg := by
  have h0 := (vp_in_iff.mp h).1
  have h1 := Int32.toNatClampNeg_lt k
  have e : k.toNatClampNeg = k.toInt.toNat := rfl
  apply Int32.toInt_inj.mp
  rw [Int32.toInt_ofNat_of_lt h1, e]
  omega
theorem ynat {n : Nat} (h : n < 2147483648) : (Int32.ofNat n).toNatClampNeg = n := Int32.toNatClampNeg_ofNat_of_lt (by omega)
theorem yint {n : Nat} (h : n < 2147483648) : (Int32.ofNat n).toInt = n := Int32.toInt_ofNat_of_lt (by omega)
theorem yinc (n : Nat) : Int32.ofNat n + 1 = Int32.ofNat (n + 1) := (Int32.ofNat_add n 1).symm
theorem yle {a n : Nat} (ha : a < 2147483648) (hn : n < 2147483648) : Int32.ofNat a ≤ Int32.ofNat n ↔ a ≤ n := by
  rw [Int32.le_iff_toInt_le, yint ha, yint hn]
  omega
theorem ylt {a n : Nat} (ha : a < 2147483648) (hn : n < 2147483648) : Int32.ofNat a < Int32.ofNat n ↔ a < n := by
  rw [Int32.lt_iff_toInt_lt, yint ha, yint hn]
  omega
theorem yvp {j n : Nat} (h : j < n) (hn : n ≤ 2147483647) : vp_in (Int32.ofNat j) n := by
  have e := yint (n := j) (by omega)
  exact vp_in_iff.mpr ⟨by omega, by omega⟩
theorem yi_k : ∀ n, n < 32 → ((Int32.ofNat n &&& 31).toBitVec.smod 32).toNat = n := by decide +kernel
theorem yi_sh (x : Int32) {n : Nat} (hn : n < 32) : (x >>> (Int32.ofNat n &&& 31)).toBitVec.getLsbD 0 = x.toBitVec.getLsbD n := by
  have h := yi_k n hn
  rw [Int32.toBitVec_shiftRight, BitVec.getLsbD_sshiftRight', h]
  simp [hn]
theorem yi_one (y : Int32) : (y &&& 1) = 1 ↔ y.toBitVec.getLsbD 0 = true := by
  have e1 : (1 : Int32).toBitVec.getLsbD 0 = true := by decide
  have e : (y &&& 1).toBitVec.getLsbD 0 = y.toBitVec.getLsbD 0 := by
    rw [Int32.toBitVec_and, BitVec.getLsbD_and, e1, Bool.and_true]
  rcases zAnd1 y with h | h
  · rw [← e, h]
    decide
  · rw [← e, h]
    decide
theorem yi_is {x k : Int32} {n : Nat} (hk : vp_in k n) (hn : n ≤ 32) : rX7_isIn x k = 0 ↔ ¬ yi x k.toNatClampNeg := by
  have hj : k.toNatClampNeg < 32 := Nat.lt_of_lt_of_le (zin_lt hk) hn
  have e : (x >>> (k &&& 31)).toBitVec.getLsbD 0 = x.toBitVec.getLsbD k.toNatClampNeg := by
    have h := yi_sh x hj
    rw [← yof hk] at h
    exact h
  unfold rX7_isIn yi
  rw [← e, ← yi_one]
  split
  · next h => exact ⟨fun q => absurd q (by decide), fun q => absurd h q⟩
  · next h => exact ⟨fun _ => h, fun _ => rfl⟩
theorem yi_isN {x : Int32} {m : Nat} (hm : m < 32) : rX7_isIn x (Int32.ofNat m) = 0 ↔ ¬ yi x m := by
  have h := yi_is (x := x) (yvp hm (by decide)) (Nat.le_refl 32)
  rw [ynat (by omega)] at h
  exact h
theorem yi_or (x y : Int32) (m : Nat) : yi (x ||| y) m ↔ (yi x m ∨ yi y m) := by
  unfold yi
  rw [Int32.toBitVec_or, BitVec.getLsbD_or, Bool.or_eq_true]
theorem yi_and (x y : Int32) (m : Nat) : yi (x &&& y) m ↔ (yi x m ∧ yi y m) := by
  unfold yi
  rw [Int32.toBitVec_and, BitVec.getLsbD_and, Bool.and_eq_true]
theorem yi_m1 : ∀ m, m < 32 → (-1 : Int32).toBitVec.getLsbD m = true := by decide +kernel
theorem yi_not (x : Int32) {m : Nat} (hm : m < 32) : yi (x ^^^ (-1)) m ↔ ¬ yi x m := by
  have h := yi_m1 m hm
  unfold yi
  rw [Int32.toBitVec_xor, BitVec.getLsbD_xor, h]
  cases x.toBitVec.getLsbD m <;> decide
theorem yi_bit : ∀ k, k < 6 → ∀ m, m < 32 → ((1 : Int32) <<< (Int32.ofNat k &&& 31)).toBitVec.getLsbD m = decide (m = k) := by decide +kernel
theorem yi_sg {k m : Nat} (hk : k < 6) (hm : m < 32) : yi ((1 : Int32) <<< (Int32.ofNat k &&& 31)) m ↔ m = k := by
  have h := yi_bit k hk m hm
  unfold yi
  rw [h, decide_eq_true_eq]
theorem ytb {o j : Nat} (ho : o < 64) (h : o.testBit j = true) : j < 6 := by
  rcases Nat.lt_or_ge j 6 with h1 | h1
  · exact h1
  · have h2 : 2 ^ 6 ≤ 2 ^ j := Nat.pow_le_pow_right (by decide) h1
    have h3 := Nat.testBit_lt_two_pow (x := o) (i := j) (by omega)
    rw [h] at h3
    cases h3
theorem yi_nat {n m : Nat} (hn : n < 64) : yi (Int32.ofNat n) m ↔ n.testBit m = true := by
  have e : (Int32.ofNat n).toBitVec = BitVec.ofNat 32 n := rfl
  unfold yi
  rw [e, BitVec.getLsbD_ofNat, Bool.and_eq_true, decide_eq_true_eq]
  constructor
  · exact fun h => h.2
  · intro h
    have h6 := ytb hn h
    exact ⟨by omega, h⟩
theorem yi_x {x : Int32} (h : vp_in x 64) (m : Nat) : yi x m ↔ x.toNatClampNeg.testBit m = true := by
  have e := yi_nat (m := m) (zin_lt h)
  rw [← yof h] at e
  exact e
theorem yb_or (x y : Int64) (c : Nat) : yb (x ||| y) c ↔ (yb x c ∨ yb y c) := by
  unfold yb
  rw [Int64.toBitVec_or, BitVec.getLsbD_or, Bool.or_eq_true]
theorem yb_and (x y : Int64) (c : Nat) : yb (x &&& y) c ↔ (yb x c ∧ yb y c) := by
  unfold yb
  rw [Int64.toBitVec_and, BitVec.getLsbD_and, Bool.and_eq_true]
theorem yb_lt {x : Int64} {c : Nat} (h : yb x c) : c < 64 := BitVec.lt_of_getLsbD h
theorem yb_0 (c : Nat) : ¬ yb 0 c := by
  have e : (0 : Int64).toBitVec = 0#64 := rfl
  unfold yb
  rw [e, BitVec.getLsbD_zero]
  exact fun h => by cases h
theorem yb_e0 {x : Int64} (h : ∀ c, ¬ yb x c) : x = 0 := by
  have e : (0 : Int64).toBitVec = 0#64 := rfl
  apply Int64.toBitVec_inj.mp
  apply BitVec.eq_of_getLsbD_eq
  intro c hc
  rw [e, BitVec.getLsbD_zero]
  exact Bool.eq_false_iff.mpr (h c)
theorem yb_m1 : ∀ c, c < 64 → (-1 : Int64).toBitVec.getLsbD c = true := by decide +kernel
theorem ycmp (x : Int64) : lg_cmp x 0 = 0 ↔ x = 0 := by
  unfold lg_cmp
  constructor
  · intro h
    split at h
    · exact absurd h (by decide)
    · split at h
      · next h2 => exact h2
      · exact absurd h (by decide)
  · intro h
    rw [h]
    decide
theorem ycmp0 (x : Int64) : lg_cmp x 0 = 0 ↔ ∀ c, ¬ yb x c :=
  (ycmp x).trans ⟨fun h c => h ▸ yb_0 c, yb_e0⟩
theorem yb_KT : ∀ a, a < 6 → ∀ c, c < 64 → (zKT a).toBitVec.getLsbD c = c.testBit a := by decide +kernel
theorem yb_NK : ∀ a, a < 6 → ∀ c, c < 64 → (zKT a ^^^ (-1 : Int64)).toBitVec.getLsbD c = !(c.testBit a) := by decide +kernel
theorem yb_kt {a c : Nat} (ha : a < 6) (hc : c < 64) : yb (zKT a) c ↔ c.testBit a = true := by
  unfold yb
  rw [yb_KT a ha c hc]
theorem yb_nk {a c : Nat} (ha : a < 6) (hc : c < 64) : yb (zKT a ^^^ (-1 : Int64)) c ↔ c.testBit a = false := by
  unfold yb
  rw [yb_NK a ha c hc]
  cases c.testBit a <;> decide
theorem yupd (f : Nat → Int64) (k : Nat) (x : Int64) (j : Nat) : vp_updL f k x j = if j = k then x else f j := rfl
theorem yxx : ∀ o, o < 64 → ∀ m, m < 6 → (Int32.ofNat o ^^^ ((1 : Int32) <<< (Int32.ofNat m &&& 31))).toNatClampNeg = o ^^^ 2 ^ m := by decide +kernel
theorem ysm : ∀ y, y < 6 → ((((1 : Int32) <<< (Int32.ofNat y &&& 31)).toInt64 &&& 63).toBitVec.smod 64).toNat = 2 ^ y := by decide +kernel
theorem yon : ∀ o, o < 64 → ∀ c, c < 64 → ((Int32.ofNat o).toInt64 <<< ((1 : Int32).toInt64 &&& 63)).toBitVec.getLsbD c = (decide (1 ≤ c) && o.testBit (c - 1)) := by decide +kernel
theorem yl1 : ∀ c, c < 64 → (1 : Int64).toBitVec.getLsbD c = decide (c = 0) := by decide +kernel
theorem yse : ∀ k, k < 64 → ∀ c, c < 64 → ((1 : Int64) <<< ((Int32.ofNat k).toInt64 &&& 63)).toBitVec.getLsbD c = decide (c = k) := by decide +kernel
theorem yad : ∀ c, c < 64 → ∀ y, y < 6 → c.testBit y = false → c + 2 ^ y < 64 ∧ ∀ x, x < 6 → (c + 2 ^ y).testBit x = (c.testBit x || decide (x = y)) := by decide +kernel
theorem ymeet : ∀ c, c < 64 → ∀ o, o < 64 → (c &&& o = 0 ↔ ∀ x, x < 6 → ¬ (c.testBit x = true ∧ o.testBit x = true)) := by decide +kernel
theorem ytog (o m x : Nat) : (o ^^^ 2 ^ m).testBit x = (o.testBit x ^^ decide (m = x)) := by
  rw [Nat.testBit_xor, Nat.testBit_two_pow]
theorem yxlt {o m : Nat} (ho : o < 64) (hm : m < 6) : o ^^^ 2 ^ m < 64 := by
  have h : 2 ^ m < 2 ^ 6 := Nat.pow_lt_pow_right (by decide) hm
  exact Nat.xor_lt_two_pow (n := 6) ho h
theorem yb_shl (X : Int64) {y : Nat} (hy : y < 6) (c : Nat) : yb (X <<< ((((1 : Int32) <<< (Int32.ofNat y &&& 31))).toInt64 &&& 63)) c ↔ (c < 64 ∧ 2 ^ y ≤ c ∧ yb X (c - 2 ^ y)) := by
  have h := ysm y hy
  unfold yb
  rw [Int64.toBitVec_shiftLeft, BitVec.getLsbD_shiftLeft', h, Bool.and_eq_true, Bool.and_eq_true, Bool.not_eq_true', decide_eq_true_eq, decide_eq_false_iff_not, Nat.not_lt, and_assoc]
