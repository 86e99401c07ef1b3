/-! the class alone: its looks at the plot, the way by trying as it is reckoned -/
/-! whether the plot can be closed: both sides -/
theorem yi_0 (m : Nat) : ¬ yi 0 m := by
  have e : (0 : Int32).toBitVec = 0#32 := rfl
  unfold yi
  rw [e, BitVec.getLsbD_zero]
  exact fun h => by cases h
theorem yi_one2 {k : Int32} {m : Nat} (hk : vp_in k 6) (hm : m < 6) : yi ((1 : Int32) <<< (k &&& 31)) m ↔ k.toNatClampNeg = m := by
  have h := yi_sg (zin_lt hk) (m := m) (by omega)
  rw [← yof hk] at h
  exact h.trans ⟨fun q => q.symm, fun q => q.symm⟩
theorem yidx {i size : Int32} (h0 : 0 ≤ i.toInt) (h1 : ¬ size ≤ i) (h2 : size.toInt ≤ 12) : i.toNatClampNeg < 12 := zin_lt (zin_c (n := 12) h0 h1 h2)
def yAg (f g : Nat → Int32) : Prop := ∀ j : Nat, j < 4 → f j = g j
theorem yupd32 (f : Nat → Int32) (k : Nat) (x : Int32) (j : Nat) : upd f k x j = if j = k then x else f j := rfl
theorem yAg_upd {f g : Nat → Int32} (h : yAg f g) (k : Nat) {x y : Int32} (hxy : x = y) : yAg (upd f k x) (upd g k y) := by
  intro j hj
  rw [yupd32, yupd32, hxy]
  split
  · rfl
  · exact h j hj
theorem yi_is0 {x k : Int32} (hk : vp_in k 6) : rX7_isIn x k = 0 ↔ ¬ yi x k.toNatClampNeg := yi_is hk (by decide)
theorem yAg_cpy {f f' g g' : Nat → Int32} (h : yAg f f') : yAg (va_cpy f g 0 0 4) (va_cpy f' g' 0 0 4) := by
  intro j hj
  show (if 0 ≤ j ∧ j < 0 + 4 then f (0 + (j - 0)) else g j) = (if 0 ≤ j ∧ j < 0 + 4 then f' (0 + (j - 0)) else g' j)
  rw [if_pos ⟨Nat.zero_le j, by omega⟩, if_pos ⟨Nat.zero_le j, by omega⟩]
  exact h _ (by omega)
theorem yAg_r (f : Nat → Int32) : yAg f f := fun _ _ => rfl
theorem y4c : ((4 : Int32)).toNatClampNeg = 4 := by decide
theorem y0c : ((0 : Int32)).toNatClampNeg = 0 := by decide
theorem yCB (ki fi se th kT hT kn ho : Nat → Int32) (size on il ba p1 : Int32) (h0 : 0 ≤ p1.toInt) : rX3_canBeClosed ki fi se th size on il ba kT hT kn ho p1 = lX3_canBeClosed_20_r ki fi se th size on il ba kT hT kn ho p1 14 (va_cpy kn kT 0 0 4) (va_cpy ho hT 0 0 4) p1 := by
  have hn : ¬ p1 < 0 := by
    rw [Int32.lt_iff_toInt_lt]
    have e : (0 : Int32).toInt = 0 := rfl
    omega
  unfold rX3_canBeClosed oX2_copyFrom_fk oX2_copyFrom_fh
  rw [if_neg hn, y4c, y0c]
/-! what a plot that can be closed gives for its next step -/
theorem yLs (ki fi se th : Nat → Int32) (size q1 s : Int32) (hsz : size.toInt ≤ 12) (hSE : ∀ j : Nat, j < 12 → vp_in (se j) 6) {m : Nat} (hm : m < 6) :
    ∀ (n : Nat) (acc i : Int32), 0 ≤ i.toInt → 1 ≤ n → size.toInt < i.toInt + n → (yi (lX0_listenersFrom_9_r ki fi se th size q1 s n acc i) m ↔ (yi acc m ∨ ∃ j : Nat, i.toInt ≤ j ∧ (j : Int) < size.toInt ∧ ki j = 0 ∧ th j = s ∧ (se j).toNatClampNeg = m)) := by
  intro n
  induction n with
  | zero =>
    intro acc i h0 h1
    omega
  | succ n ih =>
    intro acc i h0 _ h1
    rw [lX0_listenersFrom_9_r]
    by_cases hc : size ≤ i
    · rw [if_pos hc]
      have h2 := Int32.le_iff_toInt_le.mp hc
      exact ⟨Or.inl, fun q => q.elim id (fun ⟨j, a, b, _⟩ => absurd b (by omega))⟩
    · rw [if_neg hc]
      have hI := zInc hc
      have h2 : i.toInt < size.toInt := by
        rw [Int32.le_iff_toInt_le] at hc
        omega
      have hj := hSE _ (yidx h0 hc hsz)
      have en : ((i.toNatClampNeg : Nat) : Int) = i.toInt := by
        have e : i.toNatClampNeg = i.toInt.toNat := rfl
        omega
      rw [ih _ (i + 1) (by omega) (by omega) (by omega)]
      have hstep : yi (jX0_listenersFrom_51_0 ki fi se th size q1 s acc i) m ↔ (yi acc m ∨ (ki i.toNatClampNeg = 0 ∧ th i.toNatClampNeg = s ∧ (se i.toNatClampNeg).toNatClampNeg = m)) := by
        unfold jX0_listenersFrom_51_0
        by_cases k0 : ki i.toNatClampNeg = 0
        · rw [if_pos k0]
          by_cases k1 : th i.toNatClampNeg = s
          · rw [if_pos k1, yi_or, yi_one2 hj hm]
            exact ⟨fun q => q.elim Or.inl (fun q => Or.inr ⟨k0, k1, q⟩), fun q => q.elim Or.inl (fun q => Or.inr q.2.2)⟩
          · rw [if_neg k1]
            exact ⟨Or.inl, fun q => q.elim id (fun q => absurd q.2.1 k1)⟩
        · rw [if_neg k0]
          exact ⟨Or.inl, fun q => q.elim id (fun q => absurd q.1 k0)⟩
      rw [hstep]
      constructor
      · rintro ((h | h) | ⟨j, a, b, c⟩)
        · exact Or.inl h
        · exact Or.inr ⟨i.toNatClampNeg, by omega, by omega, h⟩
        · exact Or.inr ⟨j, by omega, b, c⟩
      · rintro (h | ⟨j, a, b, c⟩)
        · exact Or.inl (Or.inl h)
        · by_cases hji : j = i.toNatClampNeg
          · subst hji
            exact Or.inl (Or.inr c)
          · exact Or.inr ⟨j, by omega, b, c⟩
theorem ynn {x : Int32} (h : 0 ≤ x.toInt) : ¬ x < 0 := by
  rw [Int32.lt_iff_toInt_lt]
  have e : (0 : Int32).toInt = 0 := rfl
  omega
theorem yLf (ki fi se th : Nat → Int32) (size p1 s : Int32) (hsz : size.toInt ≤ 12) (hSE : ∀ j : Nat, j < 12 → vp_in (se j) 6) (h0 : 0 ≤ p1.toInt) {m : Nat} (hm : m < 6) : yi (rX0_listenersFrom ki fi se th size p1 s) m ↔ ∃ j : Nat, p1.toInt ≤ j ∧ (j : Int) < size.toInt ∧ ki j = 0 ∧ th j = s ∧ (se j).toNatClampNeg = m := by
  unfold rX0_listenersFrom
  rw [if_neg (ynn h0), yLs ki fi se th size p1 s hsz hSE hm 14 0 p1 h0 (by decide) (by omega)]
  exact ⟨fun q => q.elim (fun q => absurd q (yi_0 m)) id, Or.inr⟩
theorem ycp4 (f g : Nat → Int32) {j : Nat} (hj : j < 4) : va_cpy f g 0 0 4 j = f j := by
  show (if 0 ≤ j ∧ j < 0 + 4 then f (0 + (j - 0)) else g j) = f j
  rw [if_pos ⟨Nat.zero_le j, by omega⟩]
  congr 1
  omega
/-- the first step can be done, and the others behind it -/
theorem yF1 (ki fi se th kT hT kn ho : Nat → Int32) (size on il ba p1 : Int32) (h0 : 0 ≤ p1.toInt) (hc : ¬ size ≤ p1) (h : ¬ rX3_canBeClosed ki fi se th size on il ba kT hT kn ho p1 = 0) :
    ¬ rX3_canBeDone ki fi se th size on il ba (va_cpy kn kT 0 0 4) (va_cpy ho hT 0 0 4) p1 = 0 ∧ ¬ lX3_canBeClosed_20_r ki fi se th size on il ba kT hT kn ho p1 13 (oX3_canBeDone_kT ki fi se th size on il ba (va_cpy kn kT 0 0 4) (va_cpy ho hT 0 0 4) p1) (oX3_canBeDone_hT ki fi se th size on il ba (va_cpy kn kT 0 0 4) (va_cpy ho hT 0 0 4) p1) (p1 + 1) = 0 := by
  rw [yCB _ _ _ _ _ _ _ _ _ _ _ _ _ h0] at h
  have h2 : ¬ lX3_canBeClosed_20_r ki fi se th size on il ba kT hT kn ho p1 (13 + 1) (va_cpy kn kT 0 0 4) (va_cpy ho hT 0 0 4) p1 = 0 := h
  rw [lX3_canBeClosed_20_r, if_neg hc] at h2
  by_cases hd : rX3_canBeDone ki fi se th size on il ba (va_cpy kn kT 0 0 4) (va_cpy ho hT 0 0 4) p1 = 0
  · rw [if_pos hd] at h2
    exact absurd rfl h2
  · rw [if_neg hd] at h2
    exact ⟨hd, h2⟩
theorem yV (fr fb : Nat → Int64) (ki fi se th kT hT kn ho : Nat → Int32) (size on il ba p1 : Int32) (hsz : size.toInt ≤ 12) (hFI : ∀ j : Nat, j < 12 → vp_in (fi j) 6) (hSE : ∀ j : Nat, j < 12 → vp_in (se j) 6) (hTH : ∀ j : Nat, j < 12 → vp_in (th j) 4) (hne : ∀ j : Nat, (j : Int) < size.toInt → ¬ fi j = se j) (hkn : ∀ j : Nat, j < 4 → vp_in (kn j) 64) (hho : ∀ j : Nat, j < 4 → ho j = -1 ∨ vp_in (ho j) 6) (hon : vp_in on 64) (h0 : 0 ≤ p1.toInt) (hlt : p1.toInt < size.toInt) (h : ¬ rX3_canBeClosed ki fi se th size on il ba kT hT kn ho p1 = 0) :
    rX6_movesTo fr fb ki fi se th size on il ba kn ho p1 = rX4_movesTo ki fi se th size on il ba kn ho p1 := by
  have hc : ¬ size ≤ p1 := by
    rw [Int32.le_iff_toInt_le]
    omega
  have hp1 : p1 < size := by
    rw [Int32.lt_iff_toInt_lt]
    exact hlt
  have hI := zInc hc
  have hi := yidx h0 hc hsz
  have en : ((p1.toNatClampNeg : Nat) : Int) = p1.toInt := by
    have e : p1.toNatClampNeg = p1.toInt.toNat := rfl
    omega
  have hfi := hFI _ hi
  have hse := hSE _ hi
  have ht := zin_lt (hTH _ hi)
  have hd := (yF1 ki fi se th kT hT kn ho size on il ba p1 h0 hc h).1
  have hab : ¬ fi p1.toNatClampNeg = se p1.toNatClampNeg := hne _ (by omega)
  have hab2 : (fi p1.toNatClampNeg).toNatClampNeg ≠ (se p1.toNatClampNeg).toNatClampNeg := fun q => hab ((yne hfi hse).mpr q)
  unfold rX3_canBeDone at hd
  have h1 : rX7_isIn il (fi p1.toNatClampNeg) = 0 := by
    apply Classical.byContradiction
    intro q
    rw [if_neg q] at hd
    exact hd rfl
  rw [if_pos h1] at hd
  have h2 : ¬ ki p1.toNatClampNeg = 2 → ¬ ki p1.toNatClampNeg = 3 → rX7_isIn il (se p1.toNatClampNeg) = 0 := by
    intro k2 k3
    rw [if_neg k2, if_neg k3] at hd
    apply Classical.byContradiction
    intro q
    rw [if_neg q] at hd
    exact hd rfl
  have hK0 : ki p1.toNatClampNeg = 0 → ¬ rX3_canBeTold ki fi se th size on il ba (va_cpy kn kT 0 0 4) (va_cpy ho hT 0 0 4) p1 = 0 := by
    intro k0
    have k2 : ¬ ki p1.toNatClampNeg = 2 := fun q => absurd (k0.symm.trans q) (by decide)
    have k3 : ¬ ki p1.toNatClampNeg = 3 := fun q => absurd (k0.symm.trans q) (by decide)
    rw [if_neg k2, if_neg k3, if_pos (h2 k2 k3), if_pos k0] at hd
    exact hd
  have hK1 : ki p1.toNatClampNeg = 1 → ¬ rX3_canBeGiven ki fi se th size on il ba (va_cpy kn kT 0 0 4) (va_cpy ho hT 0 0 4) p1 = 0 := by
    intro k1 q
    have k0 : ¬ ki p1.toNatClampNeg = 0 := fun q => absurd (k1.symm.trans q) (by decide)
    have k2 : ¬ ki p1.toNatClampNeg = 2 := fun q => absurd (k1.symm.trans q) (by decide)
    have k3 : ¬ ki p1.toNatClampNeg = 3 := fun q => absurd (k1.symm.trans q) (by decide)
    rw [if_neg k2, if_neg k3, if_pos (h2 k2 k3), if_neg k0, if_pos k1, if_pos q] at hd
    exact hd rfl
  refine yW fr fb ki fi se th kn ho size on il ba p1 (ynn h0) hp1 hon hfi hse hab ((yi_is0 hfi).mp h1) (fun k2 k3 => (yi_is0 hse).mp (h2 k2 k3)) ?_ ?_ ?_
  · intro k0
    rw [yLf ki fi se th size p1 _ hsz hSE h0 (zin_lt hse)]
    exact ⟨p1.toNatClampNeg, by omega, by omega, k0, rfl, rfl⟩
  · intro k0
    have h3 := hK0 k0
    unfold rX3_canBeTold rX2_isKnower at h3
    rw [ycp4 kn kT ht] at h3
    have b1 : rX7_isIn ba (th p1.toNatClampNeg) = 0 := by
      apply Classical.byContradiction
      intro q
      rw [if_neg q] at h3
      exact h3 rfl
    rw [if_pos b1] at h3
    have b2 : rX7_isIn (kn (th p1.toNatClampNeg).toNatClampNeg) (se p1.toNatClampNeg) = 0 := by
      apply Classical.byContradiction
      intro q
      rw [if_neg q] at h3
      exact h3 rfl
    rw [if_pos b2] at h3
    refine ⟨hkn _ ht, (yi_is0 hse).mp b2, fun q => ?_⟩
    rw [if_pos ((yi_is0 hfi).mpr q)] at h3
    have b3 : ¬ rX3_canHear ki fi se th size on il ba (va_cpy kn kT 0 0 4) (va_cpy ho hT 0 0 4) (fi p1.toNatClampNeg) (th p1.toNatClampNeg) p1 = 0 := by
      intro q2
      rw [if_pos q2] at h3
      exact h3 rfl
    unfold rX3_canHear at b3
    rw [ycp4 kn kT ht] at b3
    have b4 : ¬ kn (th p1.toNatClampNeg).toNatClampNeg &&& (il ^^^ (-1)) = 0 := by
      intro q2
      rw [if_pos q2] at b3
      exact b3 rfl
    rw [if_neg b4] at b3
    have b5 : rX7_isIn (rX0_listenersFrom ki fi se th size (p1 + 1) (th p1.toNatClampNeg)) (fi p1.toNatClampNeg) = 0 := by
      apply Classical.byContradiction
      intro q2
      rw [if_neg q2] at b3
      exact b3 rfl
    constructor
    · rw [yLf ki fi se th size p1 _ hsz hSE h0 (zin_lt hfi)]
      rintro ⟨j, c1, c2, c3, c4, c5⟩
      by_cases hj : j = p1.toNatClampNeg
      · subst hj
        exact hab2 c5.symm
      · refine (yi_is0 hfi).mp b5 ?_
        rw [yLf ki fi se th size (p1 + 1) _ hsz hSE (by omega) (zin_lt hfi)]
        exact ⟨j, by omega, c2, c3, c4, c5⟩
    · apply Classical.byContradiction
      intro q2
      refine b4 ?_
      apply Int32.toBitVec_inj.mp
      apply BitVec.eq_of_getLsbD_eq
      intro m hm
      have e0 : (0 : Int32).toBitVec = 0#32 := rfl
      rw [e0, BitVec.getLsbD_zero]
      apply Bool.eq_false_iff.mpr
      intro q3
      have q4 : yi (kn (th p1.toNatClampNeg).toNatClampNeg &&& (il ^^^ (-1))) m := q3
      rw [yi_and, yi_not _ hm] at q4
      have q5 := (yi_x (hkn _ ht) m).mp q4.1
      exact q2 ⟨m, ytb (zin_lt (hkn _ ht)) q5, q4.1, q4.2⟩
  · intro k1
    have h3 := hK1 k1
    unfold rX3_canBeGiven at h3
    rw [ycp4 ho hT ht] at h3
    rcases hho _ ht with b1 | b1
    · exact Or.inl b1
    · refine Or.inr ⟨b1, ?_⟩
      have b2 : ¬ ho (th p1.toNatClampNeg).toNatClampNeg = -1 := fun q => ym1 b1 q.symm
      rw [if_neg b2] at h3
      refine (yi_is0 b1).mp ?_
      apply Classical.byContradiction
      intro q
      rw [if_neg q] at h3
      exact h3 rfl
/-- the step told just now is done, the others behind it are as they were -/
theorem yi_ext {x y : Int32} (h : ∀ m, m < 32 → (yi x m ↔ yi y m)) : x = y := by
  apply Int32.toBitVec_inj.mp
  apply BitVec.eq_of_getLsbD_eq
  intro m hm
  exact Bool.eq_iff_iff.mpr (h m hm)
theorem yi_one3 {k : Int32} {m : Nat} (hk : vp_in k 6) (hm : m < 32) : yi ((1 : Int32) <<< (k &&& 31)) m ↔ m = k.toNatClampNeg := by
  have h := yi_sg (zin_lt hk) hm
  rw [← yof hk] at h
  exact h
theorem yi_abs {x k : Int32} (hk : vp_in k 6) (h : yi x k.toNatClampNeg) : x ||| ((1 : Int32) <<< (k &&& 31)) = x := by
  apply yi_ext
  intro m hm
  rw [yi_or, yi_one3 hk hm]
  exact ⟨fun q => q.elim id (fun q => q ▸ h), Or.inl⟩
theorem yi_back {x k : Int32} (hk : vp_in k 6) (h : ¬ yi x k.toNatClampNeg) : (x ||| ((1 : Int32) <<< (k &&& 31))) &&& (((1 : Int32) <<< (k &&& 31)) ^^^ (-1)) = x := by
  apply yi_ext
  intro m hm
  rw [yi_and, yi_or, yi_not _ hm, yi_one3 hk hm]
  constructor
  · rintro ⟨q | q, q2⟩
    · exact q
    · exact absurd q q2
  · intro q
    exact ⟨Or.inl q, fun q2 => h (q2 ▸ q)⟩
theorem yCe (ki fi se th kT0 hT0 kn ho : Nat → Int32) (size on il ba p0 : Int32) (n : Nat) (kT hT : Nat → Int32) (i : Int32) : lX3_canBeClosed_20_r ki fi se th size on il ba kT0 hT0 kn ho p0 (n + 1) kT hT i = if size ≤ i then (1 : Int32) else (if rX3_canBeDone ki fi se th size on il ba kT hT i = 0 then (0 : Int32) else lX3_canBeClosed_20_r ki fi se th size on il ba kT0 hT0 kn ho p0 n (oX3_canBeDone_kT ki fi se th size on il ba kT hT i) (oX3_canBeDone_hT ki fi se th size on il ba kT hT i) (i + 1)) := by
  rw [lX3_canBeClosed_20_r]
theorem yFu (ki fi se th kT0 hT0 kn ho : Nat → Int32) (size on il ba p0 : Int32) : ∀ (n : Nat) (kT hT : Nat → Int32) (i : Int32), 1 ≤ n → size.toInt < i.toInt + n → lX3_canBeClosed_20_r ki fi se th size on il ba kT0 hT0 kn ho p0 (n + 1) kT hT i = lX3_canBeClosed_20_r ki fi se th size on il ba kT0 hT0 kn ho p0 n kT hT i := by
  intro n
  induction n with
  | zero =>
    intro kT hT i h1
    omega
  | succ n ih =>
    intro kT hT i _ h1
    rw [yCe (n := n + 1) (kT := kT) (hT := hT) (i := i), yCe (n := n) (kT := kT) (hT := hT) (i := i)]
    by_cases hc : size ≤ i
    · rw [if_pos hc, if_pos hc]
    · rw [if_neg hc, if_neg hc]
      have hI := zInc hc
      have h2 : i.toInt < size.toInt := by
        rw [Int32.le_iff_toInt_le] at hc
        omega
      rw [ih _ _ (i + 1) (by omega) (by omega)]
theorem yAg_ite {c : Prop} [Decidable c] {f g f' g' : Nat → Int32} (h1 : yAg f f') (h2 : yAg g g') : yAg (if c then f else g) (if c then f' else g') := by
  split
  · exact h1
  · exact h2
theorem yDS (ki fi se th kT hT kT' hT' : Nat → Int32) (size on il ba i : Int32) (hsz : size.toInt ≤ 12) (hTH : ∀ j : Nat, j < 12 → vp_in (th j) 4) (h0 : 0 ≤ i.toInt) (hc : ¬ size ≤ i) (hA : yAg kT kT') (hA2 : yAg hT hT') :
    rX3_canBeDone ki fi se th size on il ba kT hT i = rX3_canBeDone ki fi se th size on il ba kT' hT' i ∧ yAg (oX3_canBeDone_kT ki fi se th size on il ba kT hT i) (oX3_canBeDone_kT ki fi se th size on il ba kT' hT' i) ∧ yAg (oX3_canBeDone_hT ki fi se th size on il ba kT hT i) (oX3_canBeDone_hT ki fi se th size on il ba kT' hT' i) := by
  have hi := yidx h0 hc hsz
  have ht := zin_lt (hTH _ hi)
  have e1 := hA _ ht
  have e2 := hA2 _ ht
  have learn : yAg (oX2_learn_fk (oX2_learn_fk kT hT (fi i.toNatClampNeg) (th i.toNatClampNeg)) hT (se i.toNatClampNeg) (th i.toNatClampNeg)) (oX2_learn_fk (oX2_learn_fk kT' hT' (fi i.toNatClampNeg) (th i.toNatClampNeg)) hT' (se i.toNatClampNeg) (th i.toNatClampNeg)) := by
    intro j hj
    unfold oX2_learn_fk
    rw [yupd32, yupd32, yupd32, yupd32, yupd32, yupd32, e1]
    split
    · rfl
    · exact hA j hj
  have give := yAg_upd hA2 (th i.toNatClampNeg).toNatClampNeg (x := se i.toNatClampNeg) rfl
  refine ⟨?_, ?_, ?_⟩
  · unfold rX3_canBeDone rX3_canBeTold rX3_canBeGiven rX3_canHear rX2_isKnower
    rw [e1, e2]
  · unfold oX3_canBeDone_kT oX3_canBeTold_kT rX3_canHear rX2_isKnower
    rw [e1]
    repeat' apply yAg_ite
    all_goals first | exact hA | exact learn
  · unfold oX3_canBeDone_hT oX3_canBeGiven_hT
    rw [e2]
    repeat' apply yAg_ite
    all_goals first | exact hA2 | exact give
theorem yDD_l (ki fi se th kT0 hT0 kn ho kT0' hT0' kn' ho' : Nat → Int32) (size on il ba p0 p0' : Int32) (hsz : size.toInt ≤ 12) (hTH : ∀ j : Nat, j < 12 → vp_in (th j) 4) :
    ∀ (n : Nat) (kT hT kT' hT' : Nat → Int32) (i : Int32), 0 ≤ i.toInt → yAg kT kT' → yAg hT hT' → lX3_canBeClosed_20_r ki fi se th size on il ba kT0 hT0 kn ho p0 n kT hT i = lX3_canBeClosed_20_r ki fi se th size on il ba kT0' hT0' kn' ho' p0' n kT' hT' i := by
  intro n
  induction n with
  | zero =>
    intro kT hT f g i h0 hA hA2
    rw [lX3_canBeClosed_20_r, lX3_canBeClosed_20_r]
  | succ n ih =>
    intro kT hT f g i h0 hA hA2
    rw [lX3_canBeClosed_20_r, lX3_canBeClosed_20_r]
    by_cases hc : size ≤ i
    · rw [if_pos hc, if_pos hc]
    · rw [if_neg hc, if_neg hc]
      have hS := yDS ki fi se th kT hT f g size on il ba i hsz hTH h0 hc hA hA2
      have hI := zInc hc
      rw [hS.1, ih _ _ _ _ (i + 1) (by omega) hS.2.1 hS.2.2]
theorem yTD (ki fi se th kT hT kT' hT' kn ho : Nat → Int32) (size on il ba p1 : Int32) (hsz : size.toInt ≤ 12) (hFI : ∀ j : Nat, j < 12 → vp_in (fi j) 6) (hSE : ∀ j : Nat, j < 12 → vp_in (se j) 6) (hTH : ∀ j : Nat, j < 12 → vp_in (th j) 4) (h0 : 0 ≤ p1.toInt) (hc : ¬ size ≤ p1) (h : ¬ rX3_canBeClosed ki fi se th size on il ba kT hT kn ho p1 = 0) (k0 : ki p1.toNatClampNeg = 0) (hka : ¬ rX7_isIn (kn (th p1.toNatClampNeg).toNatClampNeg) (fi p1.toNatClampNeg) = 0) :
    ¬ rX3_canBeClosed ki fi se th size on il ba kT' hT' (upd kn (th p1.toNatClampNeg).toNatClampNeg (kn (th p1.toNatClampNeg).toNatClampNeg ||| ((1 : Int32) <<< (se p1.toNatClampNeg &&& 31)))) ho (p1 + 1) = 0 := by
  have hI := zInc hc
  have hi := yidx h0 hc hsz
  have hfi := hFI _ hi
  have hse := hSE _ hi
  have ht := zin_lt (hTH _ hi)
  have hka2 : yi (kn (th p1.toNatClampNeg).toNatClampNeg) (fi p1.toNatClampNeg).toNatClampNeg := Classical.byContradiction (fun q => hka ((yi_is0 hfi).mpr q))
  obtain ⟨hd, hl⟩ := yF1 ki fi se th kT hT kn ho size on il ba p1 h0 hc h
  have k2 : ¬ ki p1.toNatClampNeg = 2 := fun q => absurd (k0.symm.trans q) (by decide)
  have k3 : ¬ ki p1.toNatClampNeg = 3 := fun q => absurd (k0.symm.trans q) (by decide)
  have eH : oX3_canBeDone_hT ki fi se th size on il ba (va_cpy kn kT 0 0 4) (va_cpy ho hT 0 0 4) p1 = va_cpy ho hT 0 0 4 := by
    unfold oX3_canBeDone_hT
    rw [if_neg k2, if_neg k3, if_pos k0]
    split
    · split
      · rfl
      · rfl
    · rfl
  have eK : yAg (oX3_canBeDone_kT ki fi se th size on il ba (va_cpy kn kT 0 0 4) (va_cpy ho hT 0 0 4) p1) (upd kn (th p1.toNatClampNeg).toNatClampNeg (kn (th p1.toNatClampNeg).toNatClampNeg ||| ((1 : Int32) <<< (se p1.toNatClampNeg &&& 31)))) := by
    unfold rX3_canBeDone at hd
    unfold oX3_canBeDone_kT
    rw [if_neg k2, if_neg k3, if_pos k0] at hd ⊢
    by_cases h1 : rX7_isIn il (fi p1.toNatClampNeg) = 0
    case neg =>
      rw [if_neg h1] at hd
      exact absurd rfl hd
    rw [if_pos h1] at hd ⊢
    by_cases h2 : rX7_isIn il (se p1.toNatClampNeg) = 0
    case neg =>
      rw [if_neg h2] at hd
      exact absurd rfl hd
    rw [if_pos h2] at hd ⊢
    unfold rX3_canBeTold rX2_isKnower at hd
    unfold oX3_canBeTold_kT rX2_isKnower
    rw [ycp4 kn kT ht] at hd ⊢
    by_cases b1 : rX7_isIn ba (th p1.toNatClampNeg) = 0
    case neg =>
      rw [if_neg b1] at hd
      exact absurd rfl hd
    rw [if_pos b1] at hd ⊢
    by_cases b2 : rX7_isIn (kn (th p1.toNatClampNeg).toNatClampNeg) (se p1.toNatClampNeg) = 0
    case neg =>
      rw [if_neg b2] at hd
      exact absurd rfl hd
    rw [if_pos b2, if_neg hka]
    intro j hj
    unfold oX2_learn_fk
    rw [yupd32, yupd32, yupd32, yupd32, if_pos rfl, ycp4 kn kT ht, yi_abs hfi hka2]
    split
    · rfl
    · exact ycp4 kn kT hj
  rw [yCB _ _ _ _ _ _ _ _ _ _ _ _ _ (by omega)]
  intro q
  have q2 : lX3_canBeClosed_20_r ki fi se th size on il ba kT' hT' (upd kn (th p1.toNatClampNeg).toNatClampNeg (kn (th p1.toNatClampNeg).toNatClampNeg ||| ((1 : Int32) <<< (se p1.toNatClampNeg &&& 31)))) ho (p1 + 1) (13 + 1) (va_cpy (upd kn (th p1.toNatClampNeg).toNatClampNeg (kn (th p1.toNatClampNeg).toNatClampNeg ||| ((1 : Int32) <<< (se p1.toNatClampNeg &&& 31)))) kT' 0 0 4) (va_cpy ho hT' 0 0 4) (p1 + 1) = 0 := q
  rw [yFu _ _ _ _ _ _ _ _ _ _ _ _ _ 13 _ _ _ (by decide) (by omega)] at q2
  refine hl ?_
  rw [yDD_l ki fi se th kT' hT' (upd kn (th p1.toNatClampNeg).toNatClampNeg (kn (th p1.toNatClampNeg).toNatClampNeg ||| ((1 : Int32) <<< (se p1.toNatClampNeg &&& 31)))) ho kT hT kn ho size on il ba (p1 + 1) p1 hsz hTH 13 _ _ (oX3_canBeDone_kT ki fi se th size on il ba (va_cpy kn kT 0 0 4) (va_cpy ho hT 0 0 4) p1) (oX3_canBeDone_hT ki fi se th size on il ba (va_cpy kn kT 0 0 4) (va_cpy ho hT 0 0 4) p1) (p1 + 1) (by omega) (fun j hj => (ycp4 _ _ hj).trans (eK j hj).symm) (fun j hj => by rw [eH, ycp4 _ _ hj, ycp4 _ _ hj])] at q2
  exact q2
