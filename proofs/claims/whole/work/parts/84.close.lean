/-! whether the plot can be closed: both sides -/
theorem yi_0 (m : Nat) : ¬ yi 0 m := by
  have e : (0 : Int32).toBitVec = 0#32 := rfl
  unfold yi
  rw [e, BitVec.getLsbD_zero]
  exact fun h => by cases h
theorem yi_one2 {k : Int32} {m : Nat} (hk : vp_in k 6) (hm : m < 6) : yi ((1 : Int32) <<< (k &&& 31)) m ↔ k.toNatClampNeg = m := by
  have h := yi_sg (zin_lt hk) (m := m) (by omega)
  rw [← yof hk] at h
  exact h.trans ⟨fun q => q.symm, fun q => q.symm⟩
theorem yidx {i size : Int32} (h0 : 0 ≤ i.toInt) (h1 : ¬ size ≤ i) (h2 : size.toInt ≤ 12) : i.toNatClampNeg < 12 := zin_lt (zin_c (n := 12) h0 h1 h2)
def yAg (f g : Nat → Int32) : Prop := ∀ j : Nat, j < 4 → f j = g j
/-- those to whom a secret is told behind a step -/
theorem yB_l (ki fi se th : Nat → Int32) (size q1 p1 nIl nBa nGa nNs nLi nMi nNx nMv nOn nLa nCl nLn nTh m s : Int32) (hsz : size.toInt ≤ 12) (hSE : ∀ j : Nat, j < 12 → vp_in (se j) 6) (hm : vp_in m 6) :
    ∀ (n : Nat) (acc is i : Int32), 0 ≤ i.toInt → (is = 0 ↔ ¬ yi acc m.toNatClampNeg) → (lX8_isToldBehind_8_r size nIl nBa nGa nNs nLi nMi nNx nMv nOn nLa nCl nLn nTh ki se th p1 m s n is i = 0 ↔ ¬ yi (lX0_listenersFrom_9_r ki fi se th size q1 s n acc i) m.toNatClampNeg) := by
  intro n
  induction n with
  | zero =>
    intro acc is i h0 h
    rw [lX8_isToldBehind_8_r, lX0_listenersFrom_9_r]
    exact ⟨fun _ => yi_0 _, fun _ => rfl⟩
  | succ n ih =>
    intro acc is i h0 h
    rw [lX8_isToldBehind_8_r, lX0_listenersFrom_9_r]
    by_cases hc : size ≤ i
    · rw [if_pos hc, if_pos hc]
      exact h
    · rw [if_neg hc, if_neg hc]
      have hi := zInc hc
      refine ih _ _ (i + 1) (by omega) ?_
      have hj := hSE _ (yidx h0 hc hsz)
      have hb := yi_one2 hj (zin_lt hm)
      have he := yne hj hm
      unfold jX8_isToldBehind_59_0 jX0_listenersFrom_51_0
      by_cases k0 : ki i.toNatClampNeg = 0
      · rw [if_pos k0, if_pos k0]
        by_cases k1 : th i.toNatClampNeg = s
        · rw [if_pos k1, if_pos k1, yi_or, hb]
          by_cases hs : is = 0
          · rw [if_pos hs]
            have h2 := h.mp hs
            by_cases k2 : se i.toNatClampNeg = m
            · rw [if_pos k2]
              exact ⟨fun q => absurd q (by decide), fun q => absurd (Or.inr (he.mp k2)) q⟩
            · rw [if_neg k2]
              exact ⟨fun _ q => q.elim h2 (fun q => k2 (he.mpr q)), fun _ => rfl⟩
          · rw [if_neg hs]
            have h2 : yi acc m.toNatClampNeg := Classical.byContradiction (fun q => hs (h.mpr q))
            exact ⟨fun q => absurd q (by decide), fun q => absurd (Or.inl h2) q⟩
        · rw [if_neg k1, if_neg k1]
          by_cases hs : is = 0
          · rw [if_pos hs]
            have e : (if se i.toNatClampNeg = m then (0 : Int32) else 0) = 0 := by split <;> rfl
            rw [e]
            exact ⟨fun _ => h.mp hs, fun _ => rfl⟩
          · rw [if_neg hs]
            exact ⟨fun q => absurd q (by decide), fun q => absurd (h.mpr q) hs⟩
      · rw [if_neg k0, if_neg k0]
        by_cases hs : is = 0
        · rw [if_pos hs]
          exact ⟨fun _ => h.mp hs, fun _ => rfl⟩
        · rw [if_neg hs]
          exact ⟨fun q => absurd q (by decide), fun q => absurd (h.mpr q) hs⟩
theorem yB (ki fi se th : Nat → Int32) (size p1 nIl nBa nGa nNs nLi nMi nNx nMv nOn nLa nCl nLn nTh m s : Int32) (hsz : size.toInt ≤ 12) (hSE : ∀ j : Nat, j < 12 → vp_in (se j) 6) (hm : vp_in m 6) (h0 : 0 ≤ (p1 + 1).toInt) : rX8_isToldBehind size nIl nBa nGa nNs nLi nMi nNx nMv nOn nLa nCl nLn nTh ki se th p1 m s = 0 ↔ ¬ yi (rX0_listenersFrom ki fi se th size (p1 + 1) s) m.toNatClampNeg := by
  have hn : ¬ (p1 + 1) < 0 := by
    rw [Int32.lt_iff_toInt_lt]
    have e : (0 : Int32).toInt = 0 := rfl
    omega
  unfold rX8_isToldBehind rX0_listenersFrom
  rw [if_neg hn]
  exact yB_l ki fi se th size (p1 + 1) p1 nIl nBa nGa nNs nLi nMi nNx nMv nOn nLa nCl nLn nTh m s hsz hSE hm 14 0 0 (p1 + 1) h0 ⟨fun _ => yi_0 _, fun _ => rfl⟩
theorem yupd32 (f : Nat → Int32) (k : Nat) (x : Int32) (j : Nat) : upd f k x j = if j = k then x else f j := rfl
theorem yAg_upd {f g : Nat → Int32} (h : yAg f g) (k : Nat) {x y : Int32} (hxy : x = y) : yAg (upd f k x) (upd g k y) := by
  intro j hj
  rw [yupd32, yupd32, hxy]
  split
  · rfl
  · exact h j hj
theorem yi_is0 {x k : Int32} (hk : vp_in k 6) : rX7_isIn x k = 0 ↔ ¬ yi x k.toNatClampNeg := yi_is hk (by decide)
/-- a telling -/
theorem yCT (ki fi se th kT hT mKt : Nat → Int32) (size on il ba nGa nNs nLi nMi nNx nMv nOn nLa nCl nLn nTh i : Int32) (hsz : size.toInt ≤ 12) (hFI : ∀ j : Nat, j < 12 → vp_in (fi j) 6) (hSE : ∀ j : Nat, j < 12 → vp_in (se j) 6) (hTH : ∀ j : Nat, j < 12 → vp_in (th j) 4) (h0 : 0 ≤ i.toInt) (hc : ¬ size ≤ i) (hA : yAg kT mKt) :
    (rX3_canBeTold ki fi se th size on il ba kT hT i = 0 ↔ rX8_canTell size il ba nGa nNs nLi nMi nNx nMv nOn nLa nCl nLn nTh ki fi se th mKt i = 0) ∧ (¬ rX3_canBeTold ki fi se th size on il ba kT hT i = 0 → yAg (oX3_canBeTold_kT ki fi se th size on il ba kT hT i) (oX8_canTell_mKt size il ba nGa nNs nLi nMi nNx nMv nOn nLa nCl nLn nTh ki fi se th mKt i)) := by
  have hi := yidx h0 hc hsz
  have hI := zInc hc
  have ht := zin_lt (hTH _ hi)
  have e := hA _ ht
  have hB := yB ki fi se th size i il ba nGa nNs nLi nMi nNx nMv nOn nLa nCl nLn nTh (fi i.toNatClampNeg) (th i.toNatClampNeg) hsz hSE (hFI _ hi) (by omega)
  have hL := yi_is0 (x := rX0_listenersFrom ki fi se th size (i + 1) (th i.toNatClampNeg)) (hFI _ hi)
  have hBL := hL.trans hB.symm
  unfold rX3_canBeTold oX3_canBeTold_kT rX8_canTell jX8_canTell_112_0 jX8_canTell_41_0 jX8_canTell_78_0 oX8_canTell_mKt rX3_canHear rX2_isKnower
  rw [← e]
  rw [zqIn ba, zqIn _ (se i.toNatClampNeg), zqIn (kT _) (fi i.toNatClampNeg)]
  have learn : yAg (oX2_learn_fk (oX2_learn_fk kT hT (fi i.toNatClampNeg) (th i.toNatClampNeg)) hT (se i.toNatClampNeg) (th i.toNatClampNeg)) (upd mKt (th i.toNatClampNeg).toNatClampNeg (kT (th i.toNatClampNeg).toNatClampNeg ||| (((1 : Int32) <<< (fi i.toNatClampNeg &&& 31)) ||| ((1 : Int32) <<< (se i.toNatClampNeg &&& 31))))) := by
    intro j hj
    unfold oX2_learn_fk
    rw [yupd32, yupd32, yupd32, yupd32, if_pos rfl, Int32.or_assoc]
    split
    · rfl
    · exact hA j hj
  generalize kT (th i.toNatClampNeg).toNatClampNeg &&& (il ^^^ (-1)) = W
  by_cases h1 : rX8_holds ba (th i.toNatClampNeg) = 0
  case neg =>
    simp [h1]
  by_cases h2 : rX8_holds (kT (th i.toNatClampNeg).toNatClampNeg) (se i.toNatClampNeg) = 0
  case neg =>
    simp [h1, h2]
  by_cases h3 : rX8_holds (kT (th i.toNatClampNeg).toNatClampNeg) (fi i.toNatClampNeg) = 0
  case neg =>
    simp [h1, h2, h3, learn]
  by_cases h4 : W = 0
  · simp [h1, h2, h3, h4]
  by_cases h5 : rX8_isToldBehind size il ba nGa nNs nLi nMi nNx nMv nOn nLa nCl nLn nTh ki se th i (fi i.toNatClampNeg) (th i.toNatClampNeg) = 0
  · have h6 := hBL.mpr h5
    simp [h1, h2, h3, h4, h5, h6, learn]
  · have h6 := mt hBL.mp h5
    simp [h1, h2, h3, h4, h5, h6]
/-- a giving -/
theorem yCG (ki fi se th kT hT mHt : Nat → Int32) (size on il ba nGa nNs nLi nMi nNx nMv nOn nLa nCl nLn nTh i : Int32) (hsz : size.toInt ≤ 12) (hTH : ∀ j : Nat, j < 12 → vp_in (th j) 4) (h0 : 0 ≤ i.toInt) (hc : ¬ size ≤ i) (hA : yAg hT mHt) :
    (rX3_canBeGiven ki fi se th size on il ba kT hT i = 0 ↔ rX8_canGive size il ba nGa nNs nLi nMi nNx nMv nOn nLa nCl nLn nTh se th mHt i = 0) ∧ (¬ rX3_canBeGiven ki fi se th size on il ba kT hT i = 0 → yAg (oX3_canBeGiven_hT ki fi se th size on il ba kT hT i) (oX8_canGive_mHt size il ba nGa nNs nLi nMi nNx nMv nOn nLa nCl nLn nTh se th mHt i)) := by
  have hi := yidx h0 hc hsz
  have ht := zin_lt (hTH _ hi)
  have e := hA _ ht
  have give := yAg_upd hA (th i.toNatClampNeg).toNatClampNeg (x := se i.toNatClampNeg) rfl
  unfold rX3_canBeGiven oX3_canBeGiven_hT rX8_canGive jX8_canGive_38_0 oX8_canGive_mHt
  rw [← e, zqIn]
  by_cases h1 : hT (th i.toNatClampNeg).toNatClampNeg = -1
  · simp [h1, give]
  by_cases h2 : rX8_holds il (hT (th i.toNatClampNeg).toNatClampNeg) = 0
  · simp [h1, h2, give]
  · simp [h1, h2]
/-- one step -/
theorem yCS (ki fi se th kT hT kn ho mKn mHa mKt mHt mKt1 mHt1 mKt2 mHt2 : Nat → Int32) (size on il ba nGa nNs nLi nMi nNx nMv nOn nLa nCl nLn nTh i p1 i1 ca : Int32) (hsz : size.toInt ≤ 12) (hFI : ∀ j : Nat, j < 12 → vp_in (fi j) 6) (hSE : ∀ j : Nat, j < 12 → vp_in (se j) 6) (hTH : ∀ j : Nat, j < 12 → vp_in (th j) 4) (h0 : 0 ≤ i.toInt) (hc : ¬ size ≤ i) (hA : yAg kT mKt2) (hA2 : yAg hT mHt2) (hca : ¬ ca = 0) :
    (rX3_canBeDone ki fi se th size on il ba kT hT i = 0 ↔ jX8_canClose_167_0 size il ba nGa nNs nLi nMi nNx nMv nOn nLa nCl nLn nTh ki fi se th mKn mHa mKt mHt p1 mKt1 mHt1 i1 mKt2 mHt2 ca i = 0) ∧ (¬ rX3_canBeDone ki fi se th size on il ba kT hT i = 0 → yAg (oX3_canBeDone_kT ki fi se th size on il ba kT hT i) (jX8_canClose_167_1 size il ba nGa nNs nLi nMi nNx nMv nOn nLa nCl nLn nTh ki fi se th mKn mHa mKt mHt p1 mKt1 mHt1 i1 mKt2 mHt2 ca i) ∧ yAg (oX3_canBeDone_hT ki fi se th size on il ba kT hT i) (jX8_canClose_167_2 size il ba nGa nNs nLi nMi nNx nMv nOn nLa nCl nLn nTh ki fi se th mKn mHa mKt mHt p1 mKt1 mHt1 i1 mKt2 mHt2 ca i)) := by
  have hT1 := yCT ki fi se th kT hT mKt2 size on il ba nGa nNs nLi nMi nNx nMv nOn nLa nCl nLn nTh i hsz hFI hSE hTH h0 hc hA
  have hG1 := yCG ki fi se th kT hT mHt2 size on il ba nGa nNs nLi nMi nNx nMv nOn nLa nCl nLn nTh i hsz hTH h0 hc hA2
  unfold rX3_canBeDone oX3_canBeDone_kT oX3_canBeDone_hT jX8_canClose_167_0 jX8_canClose_167_1 jX8_canClose_167_2 jX8_canClose_122_0 jX8_canClose_74_0
  rw [zqIn il, zqIn il]
  generalize rX3_canBeTold ki fi se th size on il ba kT hT i = t1 at hT1 ⊢
  generalize rX8_canTell size il ba nGa nNs nLi nMi nNx nMv nOn nLa nCl nLn nTh ki fi se th mKt2 i = t2 at hT1 ⊢
  generalize rX3_canBeGiven ki fi se th size on il ba kT hT i = g1 at hG1 ⊢
  generalize rX8_canGive size il ba nGa nNs nLi nMi nNx nMv nOn nLa nCl nLn nTh se th mHt2 i = g2 at hG1 ⊢
  generalize oX3_canBeTold_kT ki fi se th size on il ba kT hT i = t3 at hT1 ⊢
  generalize oX8_canTell_mKt size il ba nGa nNs nLi nMi nNx nMv nOn nLa nCl nLn nTh ki fi se th mKt2 i = t4 at hT1 ⊢
  generalize oX3_canBeGiven_hT ki fi se th size on il ba kT hT i = g3 at hG1 ⊢
  generalize oX8_canGive_mHt size il ba nGa nNs nLi nMi nNx nMv nOn nLa nCl nLn nTh se th mHt2 i = g4 at hG1 ⊢
  by_cases h1 : rX8_holds il (fi i.toNatClampNeg) = 0
  case neg =>
    simp [h1, hca]
  by_cases k2 : ki i.toNatClampNeg = 2
  · simp [h1, hca, k2, hA, hA2]
  by_cases k3 : ki i.toNatClampNeg = 3
  · simp [h1, hca, k3, hA, hA2]
  by_cases h2 : rX8_holds il (se i.toNatClampNeg) = 0
  case neg =>
    simp [h1, hca, k2, k3, h2]
  by_cases k0 : ki i.toNatClampNeg = 0
  · by_cases q : t1 = 0
    · have q2 := hT1.1.mp q
      simp [h1, hca, h2, k0, q, q2]
    · have q2 := mt hT1.1.mpr q
      have q3 := hT1.2 q
      simp [h1, hca, h2, k0, q, q2, q3, hA2]
  by_cases k1 : ki i.toNatClampNeg = 1
  · by_cases q : g1 = 0
    · have q2 := hG1.1.mp q
      simp [h1, hca, h2, k1, q, q2]
    · have q2 := mt hG1.1.mpr q
      have q3 := hG1.2 q
      simp [h1, hca, h2, k1, q, q2, q3, hA]
  · simp [h1, hca, h2, k0, k1, k2, k3, hA, hA2]
theorem yCZ (ki fi se th mKn mHa mKt mHt mKt1 mHt1 : Nat → Int32) (size il ba nGa nNs nLi nMi nNx nMv nOn nLa nCl nLn nTh p1 i1 : Int32) : ∀ (n : Nat) (f g : Nat → Int32) (i : Int32), lX8_canClose_41_r size il ba nGa nNs nLi nMi nNx nMv nOn nLa nCl nLn nTh ki fi se th mKn mHa mKt mHt p1 mKt1 mHt1 i1 n f g 0 i = 0 := by
  intro n
  induction n with
  | zero =>
    intro f g i
    rw [lX8_canClose_41_r]
  | succ n ih =>
    intro f g i
    have e2 : jX8_canClose_122_0 size il ba nGa nNs nLi nMi nNx nMv nOn nLa nCl nLn nTh ki fi se th mKn mHa mKt mHt p1 mKt1 mHt1 i1 f g 0 i = 0 := by
      unfold jX8_canClose_122_0
      rw [if_pos rfl]
    have e : jX8_canClose_167_0 size il ba nGa nNs nLi nMi nNx nMv nOn nLa nCl nLn nTh ki fi se th mKn mHa mKt mHt p1 mKt1 mHt1 i1 f g 0 i = 0 := by
      unfold jX8_canClose_167_0
      rw [if_pos e2]
    rw [lX8_canClose_41_r, e, ih]
    split <;> rfl
theorem yCC_l (ki fi se th kT0 hT0 kn ho mKn mHa mKt mHt mKt1 mHt1 : Nat → Int32) (size on il ba nGa nNs nLi nMi nNx nMv nOn nLa nCl nLn nTh p0 p1 i1 : Int32) (hsz : size.toInt ≤ 12) (hFI : ∀ j : Nat, j < 12 → vp_in (fi j) 6) (hSE : ∀ j : Nat, j < 12 → vp_in (se j) 6) (hTH : ∀ j : Nat, j < 12 → vp_in (th j) 4) :
    ∀ (n : Nat) (kT hT mKt2 mHt2 : Nat → Int32) (ca i : Int32), 0 ≤ i.toInt → ¬ ca = 0 → yAg kT mKt2 → yAg hT mHt2 → (lX3_canBeClosed_20_r ki fi se th size on il ba kT0 hT0 kn ho p0 n kT hT i = 0 ↔ lX8_canClose_41_r size il ba nGa nNs nLi nMi nNx nMv nOn nLa nCl nLn nTh ki fi se th mKn mHa mKt mHt p1 mKt1 mHt1 i1 n mKt2 mHt2 ca i = 0) := by
  intro n
  induction n with
  | zero =>
    intro kT hT f g ca i h0 hca hA hA2
    rw [lX3_canBeClosed_20_r, lX8_canClose_41_r]
  | succ n ih =>
    intro kT hT f g ca i h0 hca hA hA2
    rw [lX3_canBeClosed_20_r, lX8_canClose_41_r]
    by_cases hc : size ≤ i
    · rw [if_pos hc, if_pos hc]
      exact ⟨fun q => absurd q (by decide), fun q => absurd q hca⟩
    · rw [if_neg hc, if_neg hc]
      have hS := yCS ki fi se th kT hT kn ho mKn mHa mKt mHt mKt1 mHt1 f g size on il ba nGa nNs nLi nMi nNx nMv nOn nLa nCl nLn nTh i p1 i1 ca hsz hFI hSE hTH h0 hc hA hA2 hca
      have hI := zInc hc
      by_cases hd : rX3_canBeDone ki fi se th size on il ba kT hT i = 0
      · rw [if_pos hd, hS.1.mp hd, yCZ]
      · rw [if_neg hd]
        have h3 := hS.2 hd
        exact ih _ _ _ _ _ (i + 1) (by omega) (fun q => hd (hS.1.mpr q)) h3.1 h3.2
theorem yK5 (ki fi se th mKn mHa mKt mHt : Nat → Int32) (size il ba nGa nNs nLi nMi nNx nMv nOn nLa nCl nLn nTh p1 : Int32) : rX8_canClose size il ba nGa nNs nLi nMi nNx nMv nOn nLa nCl nLn nTh ki fi se th mKn mHa mKt mHt p1 = lX8_canClose_41_r size il ba nGa nNs nLi nMi nNx nMv nOn nLa nCl nLn nTh ki fi se th mKn mHa mKt mHt p1 (va_cpy mKn mKt 0 0 4) (va_cpy mHa mHt 0 0 4) 4 14 (va_cpy mKn mKt 0 0 4) (va_cpy mHa mHt 0 0 4) 1 p1 := by
  have e0 : (0 : Int32).toNatClampNeg = 0 := by decide
  have e1 : (0 : Int32) + 1 = 1 := by decide
  have e2 : (1 : Int32) + 1 = 2 := by decide
  have e3 : (2 : Int32) + 1 = 3 := by decide
  have e4 : (3 : Int32) + 1 = 4 := by decide
  have f1 : (1 : Int32).toNatClampNeg = 1 := by decide
  have f2 : (2 : Int32).toNatClampNeg = 2 := by decide
  have f3 : (3 : Int32).toNatClampNeg = 3 := by decide
  unfold rX8_canClose
  rw [lX8_canClose_2_r, if_neg (by decide), e1, lX8_canClose_2_r, if_neg (by decide), e2, lX8_canClose_2_r, if_neg (by decide), e3, lX8_canClose_2_r, if_neg (by decide), e4, lX8_canClose_2_r, if_pos (by decide), e0, f1, f2, f3, zCpA, zCpA]
  rfl
theorem yAg_cpy {f f' g g' : Nat → Int32} (h : yAg f f') : yAg (va_cpy f g 0 0 4) (va_cpy f' g' 0 0 4) := by
  intro j hj
  show (if 0 ≤ j ∧ j < 0 + 4 then f (0 + (j - 0)) else g j) = (if 0 ≤ j ∧ j < 0 + 4 then f' (0 + (j - 0)) else g' j)
  rw [if_pos ⟨Nat.zero_le j, by omega⟩, if_pos ⟨Nat.zero_le j, by omega⟩]
  exact h _ (by omega)
theorem yAg_r (f : Nat → Int32) : yAg f f := fun _ _ => rfl
theorem y4c : ((4 : Int32)).toNatClampNeg = 4 := by decide
theorem y0c : ((0 : Int32)).toNatClampNeg = 0 := by decide
theorem yCB (ki fi se th kT hT kn ho : Nat → Int32) (size on il ba p1 : Int32) (h0 : 0 ≤ p1.toInt) : rX3_canBeClosed ki fi se th size on il ba kT hT kn ho p1 = lX3_canBeClosed_20_r ki fi se th size on il ba kT hT kn ho p1 14 (va_cpy kn kT 0 0 4) (va_cpy ho hT 0 0 4) p1 := by
  have hn : ¬ p1 < 0 := by
    rw [Int32.lt_iff_toInt_lt]
    have e : (0 : Int32).toInt = 0 := rfl
    omega
  unfold rX3_canBeClosed oX2_copyFrom_fk oX2_copyFrom_fh
  rw [if_neg hn, y4c, y0c]
theorem yCC (ki fi se th kT hT kn ho kn' ho' mKt mHt : Nat → Int32) (size on il ba nGa nNs nLi nMi nNx nMv nOn nLa nCl nLn nTh p1 : Int32) (hsz : size.toInt ≤ 12) (hFI : ∀ j : Nat, j < 12 → vp_in (fi j) 6) (hSE : ∀ j : Nat, j < 12 → vp_in (se j) 6) (hTH : ∀ j : Nat, j < 12 → vp_in (th j) 4) (h0 : 0 ≤ p1.toInt) (hk : yAg kn kn') (hh : yAg ho ho') :
    rX3_canBeClosed ki fi se th size on il ba kT hT kn ho p1 = 0 ↔ rX8_canClose size il ba nGa nNs nLi nMi nNx nMv nOn nLa nCl nLn nTh ki fi se th kn' ho' mKt mHt p1 = 0 := by
  rw [yCB _ _ _ _ _ _ _ _ _ _ _ _ _ h0, yK5]
  exact yCC_l ki fi se th kT hT kn ho kn' ho' mKt mHt _ _ size on il ba nGa nNs nLi nMi nNx nMv nOn nLa nCl nLn nTh p1 p1 4 hsz hFI hSE hTH 14 _ _ _ _ 1 p1 h0 (by decide) (yAg_cpy hk) (yAg_cpy hh)
