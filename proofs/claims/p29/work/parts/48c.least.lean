/-! the way by trying: how far it is from a case -/
theorem yex {k : Int32} {n : Nat} (h : vp_in k n) : ∃ j : Nat, j < n ∧ k = Int32.ofNat j ∧ k.toNatClampNeg = j := ⟨_, zin_lt h, yof h, rfl⟩
def yo (o x : Nat) : Nat := if o.testBit x = true then 0 else 1
def yt (K : Int32) (a b o c : Nat) : Nat := if K = 0 then (if c.testBit a = true then 0 else if c &&& o = 0 then 2 else 1) else if K = 1 then (if c = a + 1 then 0 else if c = 0 then 1 else if c = b + 1 then 1 else 1 + yo o (c - 1)) else 0
def yh (K : Int32) (a b o c : Nat) : Nat := if K = 2 then 2 - yo o a else if K = 3 then 1 + yo o a else 1 + yo o a + yo o b + yt K a b o c
theorem yo1 (o x : Nat) : yo o x ≤ 1 := by
  unfold yo
  split <;> omega
theorem yo_on {o x : Nat} (h : o.testBit x = true) : yo o x = 0 := by
  unfold yo
  rw [if_pos h]
theorem yo_off {o x : Nat} (h : ¬ o.testBit x = true) : yo o x = 1 := by
  unfold yo
  rw [if_neg h]
theorem yo_same (o : Nat) {m x : Nat} (h : m ≠ x) : yo (o ^^^ 2 ^ m) x = yo o x := by
  unfold yo
  rw [ytog, decide_eq_false h, Bool.xor_false]
theorem yo_tog (o x : Nat) : yo (o ^^^ 2 ^ x) x + yo o x = 1 := by
  unfold yo
  rw [ytog, decide_eq_true rfl, Bool.xor_true]
  cases o.testBit x <;> rfl
theorem yt2 (K : Int32) (a b o c : Nat) : yt K a b o c ≤ 2 := by
  have h := yo1 o (c - 1)
  unfold yt
  repeat' split
  all_goals omega
/-- who comes or goes of a and b is not among those who count besides -/
theorem yt_ab (K : Int32) {a b o c m : Nat} (ho : o < 64) (hc : c < 64) (hm : m < 6) (hab : m = a ∨ m = b) (hb : K = 0 → c.testBit b = false) : yt K a b (o ^^^ 2 ^ m) c = yt K a b o c := by
  unfold yt
  by_cases k0 : K = 0
  · rw [if_pos k0, if_pos k0]
    by_cases h1 : c.testBit a = true
    · rw [if_pos h1, if_pos h1]
    · rw [if_neg h1, if_neg h1]
      have hcm : ¬ c.testBit m = true := by
        rcases hab with h | h
        · rw [h]
          exact h1
        · rw [h, hb k0]
          exact fun q => by cases q
      have e : c &&& (o ^^^ 2 ^ m) = 0 ↔ c &&& o = 0 := by
        rw [ymeet c hc _ (yxlt ho hm), ymeet c hc o ho]
        constructor
        · intro h x hx q
          refine h x hx ⟨q.1, ?_⟩
          have hne : m ≠ x := fun q2 => hcm (q2 ▸ q.1)
          rw [ytog, decide_eq_false hne, Bool.xor_false]
          exact q.2
        · intro h x hx q
          have hne : m ≠ x := fun q2 => hcm (q2 ▸ q.1)
          have q2 := q.2
          rw [ytog, decide_eq_false hne, Bool.xor_false] at q2
          exact h x hx ⟨q.1, q2⟩
      by_cases h2 : c &&& o = 0
      · rw [if_pos h2, if_pos (e.mpr h2)]
      · rw [if_neg h2, if_neg (fun q => h2 (e.mp q))]
  · rw [if_neg k0, if_neg k0]
    by_cases k1 : K = 1
    · rw [if_pos k1, if_pos k1]
      by_cases h1 : c = a + 1
      · rw [if_pos h1, if_pos h1]
      · rw [if_neg h1, if_neg h1]
        by_cases h2 : c = 0
        · rw [if_pos h2, if_pos h2]
        · rw [if_neg h2, if_neg h2]
          by_cases h3 : c = b + 1
          · rw [if_pos h3, if_pos h3]
          · rw [if_neg h3, if_neg h3, yo_same]
            omega
    · rw [if_neg k1, if_neg k1]
theorem yt_o1 (K : Int32) (a b : Nat) {o c m : Nat} : yt K a b o c ≤ yt K a b (o ^^^ 2 ^ m) c + 1 := by
  have h := yo1 o (c - 1)
  unfold yt
  by_cases k0 : K = 0
  · rw [if_pos k0, if_pos k0]
    by_cases h1 : c.testBit a = true
    · rw [if_pos h1]
      omega
    · rw [if_neg h1, if_neg h1]
      repeat' split
      all_goals omega
  · rw [if_neg k0, if_neg k0]
    by_cases k1 : K = 1
    · rw [if_pos k1, if_pos k1]
      repeat' split
      all_goals omega
    · rw [if_neg k1, if_neg k1]
      omega
/-- no move brings it nearer by more than one -/
theorem yh_step {K il bar : Int32} {X : Int64} {a b o o' c' : Nat} (ho : o < 64) (hab : a ≠ b) (ha : a < 6) (hb : b < 6) (hbar : K = 0 → yi bar b) (hX : ∀ c, yb X c → K = 0 → c.testBit b = false) (h : yN K il bar X o o' c') : ∃ c, yb X c ∧ yh K a b o c ≤ yh K a b o' c' + 1 ∧ (K = 0 → c'.testBit b = false) := by
  rcases h with ⟨m, hm, hw, e, hc⟩ | ⟨k0, e, x, hx, y, hy, hox, hoy, hby, c, hc, hcx, hcy, e2⟩ | ⟨k1, e, ⟨c, hc, hl⟩, _⟩
  · refine ⟨c', hc, ?_, hX c' hc⟩
    subst e
    have hc64 := yb_lt hc
    have A1 := yo1 o a
    have A2 := yo1 (o ^^^ 2 ^ m) a
    have B1 := yo1 o b
    have B2 := yo1 (o ^^^ 2 ^ m) b
    have T1 := yt_o1 K a b (o := o) (c := c') (m := m)
    have T2 := fun q => yt_ab K (a := a) (b := b) ho hc64 hm q (hX c' hc)
    unfold yh
    by_cases k2 : K = 2
    · rw [if_pos k2, if_pos k2]
      omega
    · rw [if_neg k2, if_neg k2]
      by_cases k3 : K = 3
      · rw [if_pos k3, if_pos k3]
        omega
      · rw [if_neg k3, if_neg k3]
        by_cases ma : m = a
        · have t := T2 (Or.inl ma)
          have s := yo_same o (m := m) (x := b) (by omega)
          omega
        · have s := yo_same o (m := m) (x := a) ma
          by_cases mb : m = b
          · have t := T2 (Or.inr mb)
            omega
          · have s2 := yo_same o (m := m) (x := b) mb
            omega
  · subst e
    have hc64 := yb_lt hc
    have hyb : b ≠ y := fun q => hby (q ▸ hbar k0)
    have hcb := hX c hc k0
    refine ⟨c, hc, ?_, fun _ => ?_⟩
    · have n2 : ¬ K = 2 := fun q => absurd (k0.symm.trans q) (by decide)
      have n3 : ¬ K = 3 := fun q => absurd (k0.symm.trans q) (by decide)
      have t : yt K a b o' c ≤ 1 := by
        unfold yt
        have n : ¬ c &&& o' = 0 := fun q => (ymeet c hc64 o' ho).mp q x hx ⟨hcx, hox⟩
        rw [if_pos k0, if_neg n]
        split <;> omega
      unfold yh
      rw [if_neg n2, if_neg n3, if_neg n2, if_neg n3]
      omega
    · rw [e2, (yad c hc64 y hy hcy).2 b hb, hcb, decide_eq_false hyb]
      rfl
  · subst e
    refine ⟨c, hc, ?_, fun q => absurd (q.symm.trans k1) (by decide)⟩
    have n0 : ¬ K = 0 := fun q => absurd (k1.symm.trans q) (by decide)
    have n2 : ¬ K = 2 := fun q => absurd (k1.symm.trans q) (by decide)
    have n3 : ¬ K = 3 := fun q => absurd (k1.symm.trans q) (by decide)
    have t : yt K a b o' c ≤ 1 := by
      unfold yt
      rw [if_neg n0, if_pos k1]
      split
      · omega
      · split
        · omega
        · next h2 =>
          split
          · omega
          · rcases hl with h3 | h3
            · exact absurd h3 h2
            · rw [yo_on h3]
              omega
    unfold yh
    rw [if_neg n2, if_neg n3, if_neg n2, if_neg n3]
    omega
def yJ (K il bar : Int32) (a b c : Nat) : Prop := (K = 0 → c.testBit b = false ∧ (c.testBit a = false → ¬ yi bar a ∧ ∃ x, x < 6 ∧ c.testBit x = true ∧ ¬ yi il x)) ∧ (K = 1 → c = 0 ∨ (1 ≤ c ∧ c - 1 < 6 ∧ ¬ yi il (c - 1)))
/-- one move brings it nearer -/
theorem yh_path {K il bar : Int32} {X : Int64} {a b o c : Nat} (ho : o < 64) (hab : a ≠ b) (ha : a < 6) (hb : b < 6) (hwa : ¬ yi il a) (hwb : ¬ K = 2 → ¬ K = 3 → ¬ yi il b) (hc : yb X c) (hJ : yJ K il bar a b c) (h2 : 2 ≤ yh K a b o c) : ∃ o' c', o' < 64 ∧ c' < 64 ∧ yN K il bar X o o' c' ∧ yh K a b o c = yh K a b o' c' + 1 ∧ yJ K il bar a b c' := by
  have hc64 := yb_lt hc
  have A1 := yo1 o a
  have B1 := yo1 o b
  have tog : ∀ m, m < 6 → ¬ yi il m → yN K il bar X o (o ^^^ 2 ^ m) c := fun m hm hw => Or.inl ⟨m, hm, hw, rfl, hc⟩
  by_cases k2 : K = 2
  · refine ⟨o ^^^ 2 ^ a, c, yxlt ho ha, hc64, tog a ha hwa, ?_, hJ⟩
    have t := yo_tog o a
    unfold yh at h2 ⊢
    rw [if_pos k2] at h2 ⊢
    rw [if_pos k2]
    omega
  by_cases k3 : K = 3
  · refine ⟨o ^^^ 2 ^ a, c, yxlt ho ha, hc64, tog a ha hwa, ?_, hJ⟩
    have t := yo_tog o a
    unfold yh at h2 ⊢
    rw [if_neg k2, if_pos k3] at h2 ⊢
    rw [if_neg k2, if_pos k3]
    omega
  have eh : ∀ o c, yh K a b o c = 1 + yo o a + yo o b + yt K a b o c := by
    intro o c
    unfold yh
    rw [if_neg k2, if_neg k3]
  rw [eh] at h2
  have hcb : K = 0 → c.testBit b = false := fun q => (hJ.1 q).1
  by_cases oa : o.testBit a = true
  case neg =>
    refine ⟨o ^^^ 2 ^ a, c, yxlt ho ha, hc64, tog a ha hwa, ?_, hJ⟩
    have t := yo_tog o a
    have s := yo_same o (m := a) (x := b) hab
    have u := yo_off oa
    rw [eh, eh, yt_ab K ho hc64 ha (Or.inl rfl) hcb]
    omega
  by_cases ob : o.testBit b = true
  case neg =>
    refine ⟨o ^^^ 2 ^ b, c, yxlt ho hb, hc64, tog b hb (hwb k2 k3), ?_, hJ⟩
    have t := yo_tog o b
    have s := yo_same o (m := b) (x := a) (fun q => hab q.symm)
    have u := yo_off ob
    rw [eh, eh, yt_ab K ho hc64 hb (Or.inr rfl) hcb]
    omega
  have ua := yo_on oa
  have ub := yo_on ob
  by_cases k0 : K = 0
  · have hJ0 := hJ.1 k0
    by_cases ca : c.testBit a = true
    · have t : yt K a b o c = 0 := by
        unfold yt
        rw [if_pos k0, if_pos ca]
      omega
    have ca' : c.testBit a = false := by
      cases h : c.testBit a
      · rfl
      · exact absurd h ca
    obtain ⟨hba, x, hx, hcx, hwx⟩ := hJ0.2 ca'
    by_cases cm : c &&& o = 0
    · have ox : ¬ o.testBit x = true := fun q => (ymeet c hc64 o ho).mp cm x hx ⟨hcx, q⟩
      have xa : x ≠ a := fun q => ca (q ▸ hcx)
      have xb : x ≠ b := fun q => by rw [q, hJ0.1] at hcx; cases hcx
      refine ⟨o ^^^ 2 ^ x, c, yxlt ho hx, hc64, tog x hx hwx, ?_, hJ⟩
      have t : yt K a b o c = 2 := by
        unfold yt
        rw [if_pos k0, if_neg ca, if_pos cm]
      have t2 : yt K a b (o ^^^ 2 ^ x) c = 1 := by
        have n : ¬ c &&& (o ^^^ 2 ^ x) = 0 := by
          intro q
          refine (ymeet c hc64 _ (yxlt ho hx)).mp q x hx ⟨hcx, ?_⟩
          rw [ytog, decide_eq_true rfl, Bool.xor_true]
          cases h : o.testBit x
          · rfl
          · exact absurd h ox
        unfold yt
        rw [if_pos k0, if_neg ca, if_neg n]
      have s := yo_same o xa
      have s2 := yo_same o xb
      rw [eh, eh]
      omega
    · have hex : ∃ x, x < 6 ∧ c.testBit x = true ∧ o.testBit x = true := by
        apply Classical.byContradiction
        intro q
        exact cm ((ymeet c hc64 o ho).mpr (fun x hx q2 => q ⟨x, hx, q2⟩))
      obtain ⟨x, hx, hcx, hox⟩ := hex
      have hy := yad c hc64 a ha ca'
      refine ⟨o, c + 2 ^ a, ho, hy.1, Or.inr (Or.inl ⟨k0, rfl, x, hx, a, ha, hox, oa, hba, c, hc, hcx, ca', rfl⟩), ?_, ?_⟩
      · have t : yt K a b o c = 1 := by
          unfold yt
          rw [if_pos k0, if_neg ca, if_neg cm]
        have t2 : yt K a b o (c + 2 ^ a) = 0 := by
          unfold yt
          rw [if_pos k0, hy.2 a ha, decide_eq_true rfl, Bool.or_true, if_pos rfl]
        rw [eh, eh]
        omega
      · refine ⟨fun _ => ⟨?_, fun q => ?_⟩, fun q => absurd (k0.symm.trans q) (by decide)⟩
        · rw [hy.2 b hb, hJ0.1, decide_eq_false (fun q => hab q.symm)]
          rfl
        · rw [hy.2 a ha, decide_eq_true rfl, Bool.or_true] at q
          cases q
  by_cases k1 : K = 1
  · have hJ1 := hJ.2 k1
    have J' : yJ K il bar a b (a + 1) := ⟨fun q => absurd q k0, fun _ => Or.inr ⟨by omega, ha, hwa⟩⟩
    have t0 : yt K a b o (a + 1) = 0 := by
      unfold yt
      rw [if_neg k0, if_pos k1, if_pos rfl]
    have give : (c = 0 ∨ o.testBit (c - 1) = true) → yN K il bar X o o (a + 1) := fun q => Or.inr (Or.inr ⟨k1, rfl, ⟨c, hc, q⟩, by omega, oa⟩)
    by_cases c1 : c = a + 1
    · rw [c1, t0] at h2
      omega
    by_cases c0 : c = 0
    · refine ⟨o, a + 1, ho, by omega, give (Or.inl c0), ?_, J'⟩
      have t : yt K a b o c = 1 := by
        unfold yt
        rw [if_neg k0, if_pos k1, if_neg c1, if_pos c0]
      rw [eh, eh]
      omega
    by_cases cb : c = b + 1
    · refine ⟨o, a + 1, ho, by omega, give (Or.inr (by rw [cb]; exact ob)), ?_, J'⟩
      have t : yt K a b o c = 1 := by
        unfold yt
        rw [if_neg k0, if_pos k1, if_neg c1, if_neg c0, if_pos cb]
      rw [eh, eh]
      omega
    have t : ∀ o, yt K a b o c = 1 + yo o (c - 1) := by
      intro o
      unfold yt
      rw [if_neg k0, if_pos k1, if_neg c1, if_neg c0, if_neg cb]
    by_cases oc : o.testBit (c - 1) = true
    · refine ⟨o, a + 1, ho, by omega, give (Or.inr oc), ?_, J'⟩
      have u := t o
      have v := yo_on oc
      rw [eh, eh]
      omega
    · rcases hJ1 with h | ⟨h3, h4, h5⟩
      · exact absurd h c0
      refine ⟨o ^^^ 2 ^ (c - 1), c, yxlt ho h4, hc64, tog _ h4 h5, ?_, hJ⟩
      have u := t o
      have u2 := t (o ^^^ 2 ^ (c - 1))
      have v := yo_off oc
      have w := yo_tog o (c - 1)
      have s := yo_same o (m := c - 1) (x := a) (by omega)
      have s2 := yo_same o (m := c - 1) (x := b) (by omega)
      rw [eh, eh]
      omega
  · have t : yt K a b o c = 0 := by
      unfold yt
      rw [if_neg k0, if_neg k1]
    omega
/-- where the step itself is the next move -/
theorem yD (ki fi se th : Nat → Int32) (size p1 : Int32) {o c : Nat} (ho : o < 64) (hc : c < 64) (hfi : vp_in (fi p1.toNatClampNeg) 6) (hse : vp_in (se p1.toNatClampNeg) 6) (hb : ki p1.toNatClampNeg = 0 → c.testBit (se p1.toNatClampNeg).toNatClampNeg = false) : yb (rX6_casesThatDo ki fi se th size p1 (Int32.ofNat o)) c ↔ yh (ki p1.toNatClampNeg) (fi p1.toNatClampNeg).toNatClampNeg (se p1.toNatClampNeg).toNatClampNeg o c = 1 := by
  unfold rX6_casesThatDo
  generalize ki p1.toNatClampNeg = K at hb ⊢
  obtain ⟨a, ha, ea, ea2⟩ := yex hfi
  obtain ⟨b, hb6, eb, eb2⟩ := yex hse
  rw [ea2, eb2]
  rw [eb2] at hb
  rw [ea, eb]
  have m1 : yb (-1 : Int64) c := by
    unfold yb
    exact yb_m1 c hc
  have eA : rX7_isIn (Int32.ofNat o) (Int32.ofNat a) = 0 ↔ ¬ (o.testBit a = true) := (yi_isN (by omega)).trans (not_congr (yi_nat ho))
  have eB : rX7_isIn (Int32.ofNat o) (Int32.ofNat b) = 0 ↔ ¬ (o.testBit b = true) := (yi_isN (by omega)).trans (not_congr (yi_nat ho))
  have A1 := yo1 o a
  have B1 := yo1 o b
  unfold yh
  by_cases k2 : K = 2
  · rw [if_pos k2, if_pos k2]
    by_cases oa : o.testBit a = true
    · rw [if_neg (fun q => eA.mp q oa), yo_on oa]
      exact ⟨fun q => absurd q (yb_0 c), fun q => absurd q (by decide)⟩
    · rw [if_pos (eA.mpr oa), yo_off oa]
      exact ⟨fun _ => rfl, fun _ => m1⟩
  rw [if_neg k2, if_neg k2]
  by_cases k3 : K = 3
  · rw [if_pos k3, if_pos k3]
    by_cases oa : o.testBit a = true
    · rw [if_neg (fun q => eA.mp q oa), yo_on oa]
      exact ⟨fun _ => rfl, fun _ => m1⟩
    · rw [if_pos (eA.mpr oa), yo_off oa]
      exact ⟨fun q => absurd q (yb_0 c), fun q => absurd q (by decide)⟩
  rw [if_neg k3, if_neg k3]
  by_cases oa : o.testBit a = true
  case neg =>
    rw [if_pos (eA.mpr oa), yo_off oa]
    exact ⟨fun q => absurd q (yb_0 c), fun q => absurd q (by omega)⟩
  rw [if_neg (fun q => eA.mp q oa), yo_on oa]
  by_cases ob : o.testBit b = true
  case neg =>
    rw [if_pos (eB.mpr ob), yo_off ob]
    exact ⟨fun q => absurd q (yb_0 c), fun q => absurd q (by omega)⟩
  rw [if_neg (fun q => eB.mp q ob), yo_on ob]
  unfold yt
  by_cases k0 : K = 0
  · rw [if_pos k0, if_pos k0, yb_and, yb_kt ha hc, yb_nk hb6 hc]
    by_cases ca : c.testBit a = true
    · rw [if_pos ca]
      exact ⟨fun _ => rfl, fun _ => ⟨ca, hb k0⟩⟩
    · rw [if_neg ca]
      constructor
      · exact fun q => absurd q.1 ca
      · intro q
        split at q
        · exact absurd q (by decide)
        · exact absurd q (by decide)
  rw [if_neg k0, if_neg k0]
  by_cases k1 : K = 1
  · rw [if_pos k1, if_pos k1, yinc]
    have e : yb ((1 : Int64) <<< ((Int32.ofNat (a + 1)).toInt64 &&& 63)) c ↔ c = a + 1 := by
      unfold yb
      rw [yse (a + 1) (by omega) c hc, decide_eq_true_eq]
    rw [e]
    by_cases c1 : c = a + 1
    · rw [if_pos c1]
      exact ⟨fun _ => rfl, fun _ => c1⟩
    · rw [if_neg c1]
      constructor
      · exact fun q => absurd q c1
      · intro q
        split at q
        · omega
        · split at q
          · omega
          · omega
  · rw [if_neg k1, if_neg k1]
    exact ⟨fun _ => rfl, fun _ => m1⟩
