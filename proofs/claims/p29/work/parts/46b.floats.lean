/-! ints made doubles: products and quotients are numbers -/
/-- the bits of a datum -/
theorem zfEnc (s : Bool) (c : Nat) (q : Int) (hc : c < 2 ^ 53) (hq : q ≤ 971) :
    FP.Core.encode FP.Core.b64 (.fin s c q) < 2 ^ 64 ∧ FP.Core.encode FP.Core.b64 (.fin s c q) % 2 ^ 63 < 9218868437227405312 ∧ (q ≤ 0 → FP.Core.encode FP.Core.b64 (.fin s c q) % 2 ^ 63 < 2046 * 2 ^ 52 ∧ (c ≠ 0 → FP.Core.encode FP.Core.b64 (.fin s c q) % 2 ^ 63 ≠ 0)) := by
  have ht : FP.Core.b64.tails = 4503599627370496 := by decide
  have he : FP.Core.b64.exps = 2048 := by decide
  have hm : FP.Core.b64.qmin = -1074 := by decide
  unfold FP.Core.encode FP.Core.assemble
  simp only [ht, he, hm]
  have hs : s.toNat = 0 ∨ s.toNat = 1 := by cases s <;> decide
  split
  · rcases hs with h | h <;> rw [h] <;> refine ⟨?_, ?_, ?_⟩ <;> omega
  · rcases hs with h | h <;> rw [h] <;> refine ⟨?_, ?_, ?_⟩ <;> omega
theorem zfEncInf (s : Bool) : FP.Core.encode FP.Core.b64 (.inf s) < 2 ^ 64 ∧ FP.Core.encode FP.Core.b64 (.inf s) % 2 ^ 63 ≤ 9218868437227405312 := by
  cases s <;> decide
theorem zfRR (s : Bool) (A B : Nat) (e : Int) : (∃ c q, FP.Core.roundRatio FP.Core.b64 s A B e = .fin s c q ∧ c < 2 ^ 53 ∧ q ≤ 971) ∨ FP.Core.roundRatio FP.Core.b64 s A B e = .inf s := by
  have ht : FP.Core.b64.tails = 4503599627370496 := by decide
  have hm : FP.Core.b64.qmin = -1074 := by decide
  have hp : FP.Core.b64.p = 53 := rfl
  have hx : FP.Core.b64.qmax = 971 := by decide
  unfold FP.Core.roundRatio FP.Core.roundAt FP.Core.settle FP.Core.bound
  rw [ht, hm, hp, hx]
  split
  · exact .inl ⟨0, _, rfl, by decide, by decide⟩
  · generalize FP.Core.quantum FP.Core.b64 A B e = k
    generalize FP.Core.nearest (FP.Core.unitsNum A e k) (FP.Core.unitsDen B e k) = w
    split
    · rename_i h
      split
      · exact .inl ⟨_, _, rfl, h, by assumption⟩
      · exact .inr rfl
    · split
      · exact .inl ⟨_, _, rfl, by decide, by assumption⟩
      · exact .inr rfl
theorem zfRRBits (s : Bool) (A B : Nat) (e : Int) : FP.Core.encode FP.Core.b64 (FP.Core.roundRatio FP.Core.b64 s A B e) < 2 ^ 64 ∧ FP.Core.encode FP.Core.b64 (FP.Core.roundRatio FP.Core.b64 s A B e) % 2 ^ 63 ≤ 9218868437227405312 := by
  rcases zfRR s A B e with ⟨c, q, h, h1, h2⟩ | h
  · rw [h]; have := zfEnc s c q h1 h2; omega
  · rw [h]; exact zfEncInf s
/-- a whole number, rounded -/
theorem zfInt (s : Bool) (n : Nat) (hn : n < 2 ^ 33) : ∃ c q, FP.Core.roundRatio FP.Core.b64 s n 1 0 = .fin s c q ∧ c < 2 ^ 53 ∧ q ≤ 0 ∧ (n ≠ 0 → c ≠ 0) := by
  have ht : FP.Core.b64.tails = 4503599627370496 := by decide
  have hm : FP.Core.b64.qmin = -1074 := by decide
  have hp : FP.Core.b64.p = 53 := rfl
  have hx : FP.Core.b64.qmax = 971 := by decide
  by_cases h0 : n = 0
  · refine ⟨0, FP.Core.b64.qmin, ?_, by decide, by decide, fun h => absurd h0 h⟩
    unfold FP.Core.roundRatio; rw [if_pos h0]
  · have hl : n.log2 < 33 := (Nat.log2_lt h0).mpr hn
    have hk : FP.Core.quantum FP.Core.b64 n 1 0 ≤ -20 := by
      unfold FP.Core.quantum FP.Core.leading
      rw [hm, hp]
      have : Nat.log2 1 = 0 := by decide
      simp only [this]
      split <;> omega
    have hw : FP.Core.nearest (FP.Core.unitsNum n 0 (FP.Core.quantum FP.Core.b64 n 1 0)) (FP.Core.unitsDen 1 0 (FP.Core.quantum FP.Core.b64 n 1 0)) = n * 2 ^ (0 - FP.Core.quantum FP.Core.b64 n 1 0).toNat := by
      have e1 : FP.Core.unitsDen 1 0 (FP.Core.quantum FP.Core.b64 n 1 0) = 1 := by
        unfold FP.Core.unitsDen
        have : (FP.Core.quantum FP.Core.b64 n 1 0 - 0).toNat = 0 := by omega
        rw [this]
      rw [e1]
      unfold FP.Core.nearest FP.Core.unitsNum
      simp only [Nat.mod_one, Nat.div_one]
      rw [if_pos (by decide)]
    unfold FP.Core.roundRatio FP.Core.roundAt
    rw [if_neg h0, hw]
    generalize FP.Core.quantum FP.Core.b64 n 1 0 = k at hk
    have hc0 : n * 2 ^ (0 - k).toNat ≠ 0 := Nat.mul_ne_zero h0 (by have := Nat.two_pow_pos (0 - k).toNat; omega)
    generalize n * 2 ^ (0 - k).toNat = w at hc0
    unfold FP.Core.settle FP.Core.bound
    rw [ht, hp, hx]
    have h1 : k ≤ 971 := by omega
    have h2 : k + 1 ≤ 971 := by omega
    rw [if_pos h1, if_pos h2]
    split
    · rename_i h; exact ⟨_, _, rfl, h, by omega, fun _ => hc0⟩
    · exact ⟨_, _, rfl, by decide, by omega, fun _ => by decide⟩
/-- what is no infinity decodes to a number -/
theorem zfDec (n : Nat) (_h : n < 2 ^ 64) (h1 : n % 2 ^ 63 < 2046 * 2 ^ 52) : ∃ t c q, FP.Core.decode FP.Core.b64 n = .fin t c q ∧ (n % 2 ^ 63 ≠ 0 → c ≠ 0) := by
  have ht : FP.Core.b64.tails = 4503599627370496 := by decide
  have he : FP.Core.b64.exps = 2048 := by decide
  unfold FP.Core.decode FP.Core.fieldE FP.Core.fieldT
  rw [ht, he]
  rw [if_neg (by omega)]
  split
  · exact ⟨_, _, _, rfl, by omega⟩
  · exact ⟨_, _, _, rfl, by omega⟩
/-- an int as a double, decoded -/
theorem zfI (i : Int) (hi : i.natAbs < 2 ^ 33) : ∃ t c q, FP.Core.decode FP.Core.b64 (UInt64.ofNat (FP.Core.fromInt FP.Core.b64 i)).toNat = .fin t c q ∧ (i ≠ 0 → c ≠ 0) := by
  unfold FP.Core.fromInt FP.Core.ofInt FP.Core.round
  obtain ⟨c, q, h, h1, h2, h3⟩ := zfInt (decide (i < 0)) i.natAbs hi
  show ∃ t c q, FP.Core.decode FP.Core.b64 (UInt64.ofNat (FP.Core.encode FP.Core.b64 (FP.Core.roundRatio FP.Core.b64 (decide (i < 0)) i.natAbs 1 0))).toNat = .fin t c q ∧ (i ≠ 0 → c ≠ 0)
  rw [h]
  have hb := zfEnc (decide (i < 0)) c q h1 (by omega)
  have hb2 := hb.2.2 h2
  have e1 : (UInt64.ofNat (FP.Core.encode FP.Core.b64 (.fin (decide (i < 0)) c q))).toNat = FP.Core.encode FP.Core.b64 (.fin (decide (i < 0)) c q) := by
    rw [UInt64.toNat_ofNat']; exact Nat.mod_eq_of_lt hb.1
  rw [e1]
  obtain ⟨t, c', q', h4, h5⟩ := zfDec _ hb.1 hb2.1
  exact ⟨t, c', q', h4, fun h0 => h5 (hb2.2 (h3 (by omega)))⟩
theorem zfMask (n : Nat) (h : n < 2 ^ 64) (h1 : n % 2 ^ 63 ≤ 9218868437227405312) : (UInt64.ofNat n) &&& 0x7fffffffffffffff ≤ 0x7ff0000000000000 := by
  rw [UInt64.le_iff_toNat_le, UInt64.toNat_and, UInt64.toNat_ofNat', Nat.mod_eq_of_lt h]
  have e1 : (0x7fffffffffffffff : UInt64).toNat = 2 ^ 63 - 1 := by decide
  rw [e1, Nat.and_two_pow_sub_one_eq_mod]
  exact h1
/-- a product of two ints made doubles -/
theorem zfMul {a b : UInt64} (ha : ∃ t c q, FP.Core.decode FP.Core.b64 a.toNat = .fin t c q) (hb : ∃ t c q, FP.Core.decode FP.Core.b64 b.toNat = .fin t c q) :
    FP.Core.encode FP.Core.b64 (FP.Core.round FP.Core.b64 (FP.Core.exactProduct (FP.Core.decode FP.Core.b64 a.toNat) (FP.Core.decode FP.Core.b64 b.toNat))) < 2 ^ 64 ∧ FP.Core.encode FP.Core.b64 (FP.Core.round FP.Core.b64 (FP.Core.exactProduct (FP.Core.decode FP.Core.b64 a.toNat) (FP.Core.decode FP.Core.b64 b.toNat))) % 2 ^ 63 ≤ 9218868437227405312 := by
  obtain ⟨t, c, q, h⟩ := ha
  obtain ⟨t', c', q', h'⟩ := hb
  rw [h, h']
  exact zfRRBits _ _ _ _
theorem zfDiv {a b : UInt64} (ha : (a.toNat % 2 ^ 63 ≤ 9218868437227405312)) (hb : ∃ t c q, FP.Core.decode FP.Core.b64 b.toNat = .fin t c q ∧ c ≠ 0) :
    FP.Core.encode FP.Core.b64 (FP.Core.quotient FP.Core.b64 (FP.Core.decode FP.Core.b64 a.toNat) (FP.Core.decode FP.Core.b64 b.toNat)) < 2 ^ 64 ∧ FP.Core.encode FP.Core.b64 (FP.Core.quotient FP.Core.b64 (FP.Core.decode FP.Core.b64 a.toNat) (FP.Core.decode FP.Core.b64 b.toNat)) % 2 ^ 63 ≤ 9218868437227405312 := by
  obtain ⟨t, c, q, h, hc⟩ := hb
  rw [h]
  have ht : FP.Core.b64.tails = 4503599627370496 := by decide
  have he : FP.Core.b64.exps = 2048 := by decide
  have hn : FP.Core.decode FP.Core.b64 a.toNat ≠ .nan := by
    have := a.toNat_lt
    unfold FP.Core.decode FP.Core.fieldE FP.Core.fieldT
    rw [ht, he]
    split
    · rw [if_pos (by omega)]; exact fun h => by cases h
    · split <;> exact fun h => by cases h
  revert hn
  generalize FP.Core.decode FP.Core.b64 a.toNat = d
  intro hn
  cases d with
  | nan => exact absurd rfl hn
  | inf s => exact zfEncInf _
  | fin s c' q' =>
    have e1 : FP.Core.quotient FP.Core.b64 (.fin s c' q') (.fin t c q) = FP.Core.roundRatio FP.Core.b64 (s != t) c' c (q' - q) := by
      show (if c = 0 then (if c' = 0 then FP.Core.Datum.nan else FP.Core.Datum.inf (s != t)) else FP.Core.roundRatio FP.Core.b64 (s != t) c' c (q' - q)) = _
      rw [if_neg hc]
    rw [e1]
    exact zfRRBits _ _ _ _
theorem zfMulN (a b : Int32) : vf_n64 (FP.dmul (FP.i2d a) (FP.i2d b)) := by
  have h1 := zfI a.toInt (by have := a.toInt_lt; have := a.le_toInt; omega)
  have h2 := zfI b.toInt (by have := b.toInt_lt; have := b.le_toInt; omega)
  obtain ⟨t, c, q, h3, _⟩ := h1
  obtain ⟨t', c', q', h4, _⟩ := h2
  have h5 := zfMul (a := FP.i2d a) (b := FP.i2d b) ⟨t, c, q, h3⟩ ⟨t', c', q', h4⟩
  exact zfMask _ h5.1 h5.2
theorem zfDivN (a b c : Int32) (hc : ¬ c = 0) : vf_n64 (FP.ddiv (FP.dmul (FP.i2d a) (FP.i2d b)) (FP.i2d c)) := by
  have h1 := zfI a.toInt (by have := a.toInt_lt; have := a.le_toInt; omega)
  have h2 := zfI b.toInt (by have := b.toInt_lt; have := b.le_toInt; omega)
  have h6 := zfI c.toInt (by have := c.toInt_lt; have := c.le_toInt; omega)
  obtain ⟨t, n, q, h3, _⟩ := h1
  obtain ⟨t', n', q', h4, _⟩ := h2
  obtain ⟨t2, n2, q2, h7, h8⟩ := h6
  have h5 := zfMul (a := FP.i2d a) (b := FP.i2d b) ⟨t, n, q, h3⟩ ⟨t', n', q', h4⟩
  have e1 : (FP.dmul (FP.i2d a) (FP.i2d b)).toNat = FP.Core.encode FP.Core.b64 (FP.Core.round FP.Core.b64 (FP.Core.exactProduct (FP.Core.decode FP.Core.b64 (FP.i2d a).toNat) (FP.Core.decode FP.Core.b64 (FP.i2d b).toNat))) := by
    show (UInt64.ofNat _).toNat = _
    rw [UInt64.toNat_ofNat']
    exact Nat.mod_eq_of_lt h5.1
  have hz : c.toInt ≠ 0 := fun h => hc (Int32.toInt_inj.mp (by rw [h]; rfl))
  have h9 := zfDiv (a := FP.dmul (FP.i2d a) (FP.i2d b)) (b := FP.i2d c) (by rw [e1]; exact h5.2) ⟨t2, n2, q2, h7, h8 hz⟩
  exact zfMask _ h9.1 h9.2
