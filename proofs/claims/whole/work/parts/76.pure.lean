/-! the two sides: what is looked at is the same -/
/-! what the class holds, said of the reference; what keeps true of it -/
def zKn (zh : ZH) : Nat → Int32 := if zh.ni = 0 then zh.kb0 else zh.kn
def zHo (zh : ZH) : Nat → Int32 := if zh.ni = 0 then zh.hb0 else zh.ho
def zMof (zh : ZH) (kt ht : Nat → Int32) (th : Int32) : ZM := ZM.of zh.size zh.il zh.ba zh.gs zh.ni zh.li zh.mi zh.nx zh.mv zh.on zh.al zh.nc zh.nl th zh.kb0 zh.hb0 zh.ki zh.fi zh.se zh.th zh.le zh.wi zh.pr zh.tp zh.pt (zKn zh) (zHo zh) kt ht
theorem zCmp (x : Int64) : lg_cmp x x = 0 := by
  unfold lg_cmp; simp
theorem zU0 (f : Nat → Int64) (k : Nat) (v : Int64) : vp_updL f k v k = v := by
  unfold vp_updL; simp
theorem zFU0 (f : Nat → UInt64) (k : Nat) (v : UInt64) : vf_upd f k v k = v := by
  unfold vf_upd; simp
theorem zqMask (p : Int32) : xX7_needMask p = if rX8_isMask p = 0 then 1 else 0 := by
  unfold xX7_needMask rX8_isMask rX8_isIn
  have e5 : (5 : Int32).toInt = 5 := rfl
  have e6 : (6 : Int32).toInt = 6 := rfl
  by_cases h1 : p < 0
  · simp [h1]
  · by_cases h2 : p < 6
    · have h3 : ¬ (5 : Int32) < p := by rw [Int32.lt_iff_toInt_lt] at h2 ⊢; omega
      simp [h1, h2, h3]
    · have h3 : (5 : Int32) < p := by rw [Int32.lt_iff_toInt_lt] at h2 ⊢; omega
      simp [h1, h2, h3]
theorem zqSecret (p : Int32) : xX7_needSecret p = if rX8_isSecret p = 0 then 1 else 0 := by
  unfold xX7_needSecret rX8_isSecret rX8_isIn
  have e5 : (3 : Int32).toInt = 3 := rfl
  have e6 : (4 : Int32).toInt = 4 := rfl
  by_cases h1 : p < 0
  · simp [h1]
  · by_cases h2 : p < 4
    · have h3 : ¬ (3 : Int32) < p := by rw [Int32.lt_iff_toInt_lt] at h2 ⊢; omega
      simp [h1, h2, h3]
    · have h3 : (3 : Int32) < p := by rw [Int32.lt_iff_toInt_lt] at h2 ⊢; omega
      simp [h1, h2, h3]
theorem zqProp (p : Int32) : xX7_needProp p = if rX8_isProp p = 0 then 1 else 0 := zqSecret p
theorem zqRange (p a b : Int32) : xX7_needRange p a b = if rX8_isIn p a b = 0 then 2 else 0 := by
  unfold xX7_needRange rX8_isIn
  by_cases h1 : p < a
  · simp [h1]
  · by_cases h2 : p ≤ b
    · have h3 : ¬ b < p := by rw [Int32.lt_iff_toInt_lt]; rw [Int32.le_iff_toInt_le] at h2; omega
      simp [h1, h2, h3]
    · have h3 : b < p := by rw [Int32.lt_iff_toInt_lt]; rw [Int32.le_iff_toInt_le] at h2; omega
      simp [h1, h2, h3]
theorem zqIn (x k : Int32) : rX7_isIn x k = rX8_holds x k := rfl
theorem zq01 (x k : Int32) : rX8_holds x k = 0 ∨ rX8_holds x k = 1 := by
  unfold rX8_holds
  split
  · exact Or.inr rfl
  · exact Or.inl rfl
theorem zAnd1 (x : Int32) : x &&& 1 = 0 ∨ x &&& 1 = 1 := by
  have h := vp_in_iff.mp (pk_andIn x (m := 1) 1 rfl (by decide))
  have e0 : (0 : Int32).toInt = 0 := rfl
  have e1 : (1 : Int32).toInt = 1 := rfl
  have h2 : (x &&& 1).toInt = 0 ∨ (x &&& 1).toInt = 1 := by
    have h3 : (x &&& 1) = (x &&& 1) := rfl
    omega
  rcases h2 with h2 | h2
  · exact Or.inl (Int32.toInt_inj.mp (by rw [h2, e0]))
  · exact Or.inr (Int32.toInt_inj.mp (by rw [h2, e1]))
theorem zqOr (a b k : Int32) : rX8_holds (a ||| b) k = 0 ↔ (rX8_holds a k = 0 ∧ rX8_holds b k = 0) := by
  have e1 : (((a ||| b) >>> (k &&& 31)) &&& 1) = ((a >>> (k &&& 31)) &&& 1) ||| ((b >>> (k &&& 31)) &&& 1) := by
    rw [Int32.shiftRight_or]
    generalize a >>> (k &&& 31) = x
    generalize b >>> (k &&& 31) = y
    apply Int32.toBitVec_inj.mp
    simp only [Int32.toBitVec_and, Int32.toBitVec_or]
    ext i hi
    simp only [BitVec.getElem_and, BitVec.getElem_or]
    rw [Bool.and_or_distrib_right]
  unfold rX8_holds
  rw [e1]
  rcases zAnd1 (a >>> (k &&& 31)) with h | h <;> rcases zAnd1 (b >>> (k &&& 31)) with h' | h' <;> rw [h, h'] <;> decide
theorem zUpS (f : Nat → Int32) (k : Nat) : upd f k (f k) = f := by
  funext j; unfold upd; split
  · next h => rw [h]
  · rfl
theorem zUpK (f : Nat → Int32) (k : Nat) (v : Int32) : upd f k v k = v := by
  unfold upd; simp
theorem zMof_nSt (zh : ZH) (kt ht : Nat → Int32) (th : Int32) : (zMof zh kt ht th).nSt = zh.size := rfl
theorem zMof_nIl (zh : ZH) (kt ht : Nat → Int32) (th : Int32) : (zMof zh kt ht th).nIl = zh.il := rfl
theorem zMof_nBa (zh : ZH) (kt ht : Nat → Int32) (th : Int32) : (zMof zh kt ht th).nBa = zh.ba := rfl
theorem zMof_nGa (zh : ZH) (kt ht : Nat → Int32) (th : Int32) : (zMof zh kt ht th).nGa = zh.gs := rfl
theorem zMof_nNs (zh : ZH) (kt ht : Nat → Int32) (th : Int32) : (zMof zh kt ht th).nNs = zh.ni := rfl
theorem zMof_nLi (zh : ZH) (kt ht : Nat → Int32) (th : Int32) : (zMof zh kt ht th).nLi = zh.li := rfl
theorem zMof_nMi (zh : ZH) (kt ht : Nat → Int32) (th : Int32) : (zMof zh kt ht th).nMi = zh.mi := rfl
theorem zMof_nNx (zh : ZH) (kt ht : Nat → Int32) (th : Int32) : (zMof zh kt ht th).nNx = zh.nx := rfl
theorem zMof_nMv (zh : ZH) (kt ht : Nat → Int32) (th : Int32) : (zMof zh kt ht th).nMv = zh.mv := rfl
theorem zMof_nOn (zh : ZH) (kt ht : Nat → Int32) (th : Int32) : (zMof zh kt ht th).nOn = zh.on := rfl
theorem zMof_nLa (zh : ZH) (kt ht : Nat → Int32) (th : Int32) : (zMof zh kt ht th).nLa = zh.al := rfl
theorem zMof_nCl (zh : ZH) (kt ht : Nat → Int32) (th : Int32) : (zMof zh kt ht th).nCl = zh.nc := rfl
theorem zMof_nLn (zh : ZH) (kt ht : Nat → Int32) (th : Int32) : (zMof zh kt ht th).nLn = zh.nl := rfl
theorem zMof_nTh (zh : ZH) (kt ht : Nat → Int32) (th : Int32) : (zMof zh kt ht th).nTh = th := rfl
theorem zMof_mFk (zh : ZH) (kt ht : Nat → Int32) (th : Int32) : (zMof zh kt ht th).mFk = zh.kb0 := rfl
theorem zMof_mFh (zh : ZH) (kt ht : Nat → Int32) (th : Int32) : (zMof zh kt ht th).mFh = zh.hb0 := rfl
theorem zMof_mKi (zh : ZH) (kt ht : Nat → Int32) (th : Int32) : (zMof zh kt ht th).mKi = zh.ki := rfl
theorem zMof_mOn (zh : ZH) (kt ht : Nat → Int32) (th : Int32) : (zMof zh kt ht th).mOn = zh.fi := rfl
theorem zMof_mOt (zh : ZH) (kt ht : Nat → Int32) (th : Int32) : (zMof zh kt ht th).mOt = zh.se := rfl
theorem zMof_mWh (zh : ZH) (kt ht : Nat → Int32) (th : Int32) : (zMof zh kt ht th).mWh = zh.th := rfl
theorem zMof_mLe (zh : ZH) (kt ht : Nat → Int32) (th : Int32) : (zMof zh kt ht th).mLe = zh.le := rfl
theorem zMof_mWi (zh : ZH) (kt ht : Nat → Int32) (th : Int32) : (zMof zh kt ht th).mWi = zh.wi := rfl
theorem zMof_mPr (zh : ZH) (kt ht : Nat → Int32) (th : Int32) : (zMof zh kt ht th).mPr = zh.pr := rfl
theorem zMof_mPl (zh : ZH) (kt ht : Nat → Int32) (th : Int32) : (zMof zh kt ht th).mPl = zh.tp := rfl
theorem zMof_mPt (zh : ZH) (kt ht : Nat → Int32) (th : Int32) : (zMof zh kt ht th).mPt = zh.pt := rfl
theorem zMof_mKn (zh : ZH) (kt ht : Nat → Int32) (th : Int32) : (zMof zh kt ht th).mKn = (zKn zh) := rfl
theorem zMof_mHa (zh : ZH) (kt ht : Nat → Int32) (th : Int32) : (zMof zh kt ht th).mHa = (zHo zh) := rfl
theorem zMof_mKt (zh : ZH) (kt ht : Nat → Int32) (th : Int32) : (zMof zh kt ht th).mKt = kt := rfl
theorem zMof_mHt (zh : ZH) (kt ht : Nat → Int32) (th : Int32) : (zMof zh kt ht th).mHt = ht := rfl
theorem zs12 {x : Int32} (h : x.toInt ≤ 12) : x = 12 ↔ ¬ x < 12 := by
  have e1 : (12 : Int32).toInt = 12 := rfl
  rw [Int32.lt_iff_toInt_lt, e1]
  constructor
  · intro h1; rw [h1]; decide
  · intro h1; exact Int32.toInt_inj.mp (by omega)
theorem zs12' (x : Int32) : (12 : Int32) ≤ x ↔ ¬ x < 12 := by
  rw [Int32.lt_iff_toInt_lt, Int32.le_iff_toInt_le]; omega
theorem zs6 {x : Int32} (h : x.toInt ≤ 6) : x = 6 ↔ ¬ x < 6 := by
  have e1 : (6 : Int32).toInt = 6 := rfl
  rw [Int32.lt_iff_toInt_lt, e1]
  constructor
  · intro h1; rw [h1]; decide
  · intro h1; exact Int32.toInt_inj.mp (by omega)
theorem zsG {p g : Int32} (h0 : 0 ≤ g.toInt) (h : g.toInt ≤ 6) : rX8_isIn p 0 (g - 1) = 0 ↔ (p < 0 ∨ ¬ p < g) := by
  have e0 : (0 : Int32).toInt = 0 := rfl
  have e1 : (g - 1).toInt = g.toInt - 1 := by
    have e2 : (1 : Int32).toInt = 1 := rfl
    rw [Int32.toInt_sub, e2, Int.bmod_def]; omega
  unfold rX8_isIn
  by_cases h1 : p < 0
  · simp [h1]
  · by_cases h2 : g - 1 < p
    · have h3 : ¬ p < g := by rw [Int32.lt_iff_toInt_lt] at h2 ⊢; omega
      simp [h1, h2, h3]
    · have h3 : p < g := by rw [Int32.lt_iff_toInt_lt] at h1 h2 ⊢; omega
      simp [h1, h2, h3]
theorem zsC (p : Int32) : rX8_isIn p 0 5 = 0 ↔ (¬ p = 0 ∧ ¬ p = 1 ∧ ¬ p = 2 ∧ ¬ p = 3 ∧ ¬ p = 4 ∧ ¬ p = 5) := by
  have e0 : (0 : Int32).toInt = 0 := rfl
  have e1 : (1 : Int32).toInt = 1 := rfl
  have e2 : (2 : Int32).toInt = 2 := rfl
  have e3 : (3 : Int32).toInt = 3 := rfl
  have e4 : (4 : Int32).toInt = 4 := rfl
  have e5 : (5 : Int32).toInt = 5 := rfl
  unfold rX8_isIn
  simp only [Int32.lt_iff_toInt_lt, ← Int32.toInt_inj, e0, e1, e2, e3, e4, e5]
  by_cases h1 : p.toInt < 0
  · rw [if_pos h1]; constructor
    · intro _; omega
    · intro _; rfl
  · by_cases h2 : 5 < p.toInt
    · rw [if_neg h1, if_pos h2]; constructor
      · intro _; omega
      · intro _; rfl
    · rw [if_neg h1, if_neg h2]; constructor
      · intro h; exact absurd h (by decide)
      · intro h; omega
