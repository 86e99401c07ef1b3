/-! a step as the law keeps it; places -/
theorem zcl {x : Int32} {k : Nat} (h : x.toInt = (k : Int)) : x.toNatClampNeg = k := by
  have e : x.toNatClampNeg = x.toInt.toNat := rfl
  omega
theorem zcn {x : Int32} (h : 0 ≤ x.toInt) : ((x.toNatClampNeg : Nat) : Int) = x.toInt := by
  have e : x.toNatClampNeg = x.toInt.toNat := rfl
  omega
theorem zci {x : Int32} {n : Nat} (h : vp_in x n) : ((x.toNatClampNeg : Nat) : Int) = x.toInt := zcn (vp_in_iff.mp h).1
def zcd (k a b w : Int32) : Int32 := (((k + ((8 : Int32) * a)) + ((64 : Int32) * b)) + ((512 : Int32) * w))
theorem zcdT {k a b w : Int32} (hk : vp_in k 5) (ha : vp_in a 6) (hb : vp_in b 6) (hw : vp_in w 4) : (zcd k a b w).toInt = k.toInt + 8 * a.toInt + 64 * b.toInt + 512 * w.toInt := by
  have h1 := vp_in_iff.mp hk
  have h2 := vp_in_iff.mp ha
  have h3 := vp_in_iff.mp hb
  have h4 := vp_in_iff.mp hw
  have e1 := zmK (k := 8) (n := 8) (b := a) rfl (by omega) (by omega)
  have e2 := zmK (k := 64) (n := 64) (b := b) rfl (by omega) (by omega)
  have e3 := zmK (k := 512) (n := 512) (b := w) rfl (by omega) (by omega)
  have e4 := zaT (a := k) (b := (8 : Int32) * a) (by omega) (by omega)
  have e5 := zaT (a := k + (8 : Int32) * a) (b := (64 : Int32) * b) (by omega) (by omega)
  unfold zcd
  rw [zaT (by omega) (by omega), e5, e4, e1, e2, e3]
theorem zcd_k {k a b w : Int32} (hk : vp_in k 5) (ha : vp_in a 6) (hb : vp_in b 6) (hw : vp_in w 4) : zRem (zcd k a b w) (8 : Int32) = k := by
  have h1 := vp_in_iff.mp hk
  have h2 := vp_in_iff.mp ha
  have h3 := vp_in_iff.mp hb
  have h4 := vp_in_iff.mp hw
  have e := zcdT hk ha hb hw
  apply Int32.toInt_inj.mp
  rw [zrK (n := 8) rfl (by omega) (by omega), e]
  omega
theorem zcd_a {k a b w : Int32} (hk : vp_in k 5) (ha : vp_in a 6) (hb : vp_in b 6) (hw : vp_in w 4) : zRem (zcd k a b w / (8 : Int32)) (8 : Int32) = a := by
  have h1 := vp_in_iff.mp hk
  have h2 := vp_in_iff.mp ha
  have h3 := vp_in_iff.mp hb
  have h4 := vp_in_iff.mp hw
  have e := zcdT hk ha hb hw
  have e2 := zdK (a := zcd k a b w) (b := 8) (n := 8) rfl (by omega) (by omega)
  apply Int32.toInt_inj.mp
  rw [zrK (n := 8) rfl (by omega) (by omega), e2, e]
  omega
theorem zcd_b {k a b w : Int32} (hk : vp_in k 5) (ha : vp_in a 6) (hb : vp_in b 6) (hw : vp_in w 4) : zRem (zcd k a b w / (64 : Int32)) (8 : Int32) = b := by
  have h1 := vp_in_iff.mp hk
  have h2 := vp_in_iff.mp ha
  have h3 := vp_in_iff.mp hb
  have h4 := vp_in_iff.mp hw
  have e := zcdT hk ha hb hw
  have e2 := zdK (a := zcd k a b w) (b := 64) (n := 64) rfl (by omega) (by omega)
  apply Int32.toInt_inj.mp
  rw [zrK (n := 8) rfl (by omega) (by omega), e2, e]
  omega
theorem zcd_w {k a b w : Int32} (hk : vp_in k 5) (ha : vp_in a 6) (hb : vp_in b 6) (hw : vp_in w 4) : zcd k a b w / (512 : Int32) = w := by
  have h1 := vp_in_iff.mp hk
  have h2 := vp_in_iff.mp ha
  have h3 := vp_in_iff.mp hb
  have h4 := vp_in_iff.mp hw
  have e := zcdT hk ha hb hw
  apply Int32.toInt_inj.mp
  rw [zdK (n := 512) rfl (by omega) (by omega), e]
  omega
theorem zcd_ab {k a b w : Int32} (hk : vp_in k 5) (ha : vp_in a 6) (hb : vp_in b 6) (hw : vp_in w 4) : (zRem (zcd k a b w / (8 : Int32)) (64 : Int32)).toInt = a.toInt + 8 * b.toInt := by
  have h1 := vp_in_iff.mp hk
  have h2 := vp_in_iff.mp ha
  have h3 := vp_in_iff.mp hb
  have h4 := vp_in_iff.mp hw
  have e := zcdT hk ha hb hw
  have e2 := zdK (a := zcd k a b w) (b := 8) (n := 8) rfl (by omega) (by omega)
  rw [zrK (n := 64) rfl (by omega) (by omega), e2, e]
  omega
theorem zcd_g {k a b w : Int32} (hk : vp_in k 5) (ha : vp_in a 6) (hb : vp_in b 6) (hw : vp_in w 4) : zCg (zcd k a b w) := by
  have h1 := vp_in_iff.mp hk
  have h2 := vp_in_iff.mp ha
  have h3 := vp_in_iff.mp hb
  have h4 := vp_in_iff.mp hw
  have e := zcdT hk ha hb hw
  refine ⟨by omega, ?_, ?_, ?_⟩
  · rw [zcd_a hk ha hb hw]
    exact ha
  · rw [zcd_b hk ha hb hw]
    exact hb
  · rw [zcd_w hk ha hb hw]
    exact hw
theorem zcd_inj {k a b w k' a' b' w' : Int32} (hk : vp_in k 5) (ha : vp_in a 6) (hb : vp_in b 6) (hw : vp_in w 4) (hk' : vp_in k' 5) (ha' : vp_in a' 6) (hb' : vp_in b' 6) (hw' : vp_in w' 4) : zcd k a b w = zcd k' a' b' w' ↔ (k = k' ∧ a = a' ∧ b = b' ∧ w = w') := by
  constructor
  · intro h
    refine ⟨?_, ?_, ?_, ?_⟩
    · rw [← zcd_k hk ha hb hw, h, zcd_k hk' ha' hb' hw']
    · rw [← zcd_a hk ha hb hw, h, zcd_a hk' ha' hb' hw']
    · rw [← zcd_b hk ha hb hw, h, zcd_b hk' ha' hb' hw']
    · rw [← zcd_w hk ha hb hw, h, zcd_w hk' ha' hb' hw']
  · rintro ⟨rfl, rfl, rfl, rfl⟩
    rfl
/-- the place of a mask and a secret -/
theorem zc4m {a w : Int32} (ha : vp_in a 6) (hw : vp_in w 4) : (((4 : Int32) * a) + w).toNatClampNeg = 4 * a.toNatClampNeg + w.toNatClampNeg := by
  have e := z4mT ha hw
  have e1 := zci ha
  have e2 := zci hw
  exact zcl (by omega)
theorem zc24m {a w : Int32} (ha : vp_in a 6) (hw : vp_in w 4) : (((24 : Int32) + ((4 : Int32) * a)) + w).toNatClampNeg = 24 + (4 * a.toNatClampNeg + w.toNatClampNeg) := by
  have e := z24mT ha hw
  have e1 := zci ha
  have e2 := zci hw
  exact zcl (by omega)
theorem zc4p {w : Int32} (hw : vp_in w 4) : ((4 : Int32) + w).toNatClampNeg = 4 + w.toNatClampNeg := by
  have h1 := vp_in_iff.mp hw
  have e2 := zci hw
  have e3 : (4 : Int32).toInt = 4 := rfl
  have e := zaT (a := 4) (b := w) (by omega) (by omega)
  exact zcl (by omega)
theorem zc24p {i : Int32} (hi : vp_in i 24) : ((24 : Int32) + i).toNatClampNeg = 24 + i.toNatClampNeg := by
  have h1 := vp_in_iff.mp hi
  have e2 := zci hi
  have e3 : (24 : Int32).toInt = 24 := rfl
  have e := zaT (a := 24) (b := i) (by omega) (by omega)
  exact zcl (by omega)
theorem zc6p {i : Int32} (hi : vp_in i 6) : ((6 : Int32) + i).toNatClampNeg = 6 + i.toNatClampNeg := by
  have h1 := vp_in_iff.mp hi
  have e2 := zci hi
  have e3 : (6 : Int32).toInt = 6 := rfl
  have e := zaT (a := 6) (b := i) (by omega) (by omega)
  exact zcl (by omega)
/-- a cell of the law says whether something is so -/
def zB (v : Int32) (P : Prop) : Prop := (v = 1 ∧ P) ∨ (v = 0 ∧ ¬ P)
theorem zB1 {v : Int32} {P : Prop} (h : zB v P) : v = 1 ↔ P := by
  rcases h with ⟨h, p⟩ | ⟨h, p⟩
  · exact ⟨fun _ => p, fun _ => h⟩
  · exact ⟨fun q => absurd (h.symm.trans q) (by decide), fun q => absurd q p⟩
theorem zB0 {v : Int32} {P : Prop} (h : zB v P) : v = 0 ↔ ¬ P := by
  rcases h with ⟨h, p⟩ | ⟨h, p⟩
  · exact ⟨fun q => absurd (h.symm.trans q) (by decide), fun q => absurd p q⟩
  · exact ⟨fun _ => p, fun _ => h⟩
theorem zB_iff {v : Int32} {P Q : Prop} (h : zB v P) (e : P ↔ Q) : zB v Q := by
  rcases h with ⟨h, p⟩ | ⟨h, p⟩
  · exact Or.inl ⟨h, e.mp p⟩
  · exact Or.inr ⟨h, fun q => p (e.mpr q)⟩
theorem zLI (x k : Int32) : rL_isIn x k = rX7_isIn x k := rfl
theorem zN0 : ((0 : Int32)).toNatClampNeg = 0 := by decide
theorem zN1 : ((1 : Int32)).toNatClampNeg = 1 := by decide
theorem zN2 : ((2 : Int32)).toNatClampNeg = 2 := by decide
theorem zN3 : ((3 : Int32)).toNatClampNeg = 3 := by decide
theorem zN4 : ((4 : Int32)).toNatClampNeg = 4 := by decide
theorem zN5 : ((5 : Int32)).toNatClampNeg = 5 := by decide
theorem zN6 : ((6 : Int32)).toNatClampNeg = 6 := by decide
theorem zN7 : ((7 : Int32)).toNatClampNeg = 7 := by decide
theorem zN8 : ((8 : Int32)).toNatClampNeg = 8 := by decide
theorem zN9 : ((9 : Int32)).toNatClampNeg = 9 := by decide
theorem zN10 : ((10 : Int32)).toNatClampNeg = 10 := by decide
theorem zN11 : ((11 : Int32)).toNatClampNeg = 11 := by decide
theorem zN12 : ((12 : Int32)).toNatClampNeg = 12 := by decide
theorem zN48 : ((48 : Int32)).toNatClampNeg = 48 := by decide
theorem zuE (f : Nat → Int32) (k : Nat) (x : Int32) : upd f k x k = x := by rw [yupd32, if_pos rfl]
theorem zuN (f : Nat → Int32) {k j : Nat} (x : Int32) (h : j ≠ k) : upd f k x j = f j := by rw [yupd32, if_neg h]
