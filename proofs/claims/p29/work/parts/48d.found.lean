/-! the way by trying: what is found -/
theorem yW_l (fr fb : Nat → Int64) (ki fi se th kn ho : Nat → Int32) (size on il ba p1 K : Int32) (a b H : Nat) (hfi : vp_in (fi p1.toNatClampNeg) 6) (hse : vp_in (se p1.toNatClampNeg) 6) (hK : ki p1.toNatClampNeg = K) (ha : (fi p1.toNatClampNeg).toNatClampNeg = a) (hb : (se p1.toNatClampNeg).toNatClampNeg = b) (hab : a ≠ b) (hwa : ¬ yi il a) (hwb : ¬ K = 2 → ¬ K = 3 → ¬ yi il b) (hbar : K = 0 → yi (rX0_listenersFrom ki fi se th size p1 (th p1.toNatClampNeg)) b) (hH : H ≤ 64) :
    ∀ (d i n : Nat) (fr1 fb1 : Nat → Int64), i + d = H → d ≤ n → (∀ o c, o < 64 → yb (fr1 o) c → (K = 0 → c.testBit b = false) ∧ H + 1 ≤ i + yh K a b o c) → (∃ o c, o < 64 ∧ yb (fr1 o) c ∧ i + yh K a b o c = H + 1 ∧ yJ K il (rX0_listenersFrom ki fi se th size p1 (th p1.toNatClampNeg)) a b c) → lX6_movesTo_49_r fr fb ki fi se th size on il ba kn ho p1 (n + 1) fr1 fb1 (Int32.ofNat i) = Int32.ofNat H := by
  have ha6 : a < 6 := ha ▸ zin_lt hfi
  have hb6 : b < 6 := hb ▸ zin_lt hse
  have eD : ∀ o c, o < 64 → c < 64 → (K = 0 → c.testBit b = false) → (yb (rX6_casesThatDo ki fi se th size p1 (Int32.ofNat o)) c ↔ yh K a b o c = 1) := by
    intro o c ho hc h
    have e := yD ki fi se th size p1 ho hc hfi hse (by rw [hK, hb]; exact h)
    rw [hK, ha, hb] at e
    exact e
  intro d
  induction d with
  | zero =>
    intro i n fr1 fb1 hi hn hA hB
    obtain ⟨o, c, ho, hc, hh, hJ⟩ := hB
    have hlt : ¬ (64 : Int32) < Int32.ofNat i := fun q => absurd ((ylt (a := 64) (by decide) (by omega)).mp q) (by omega)
    have hr : ¬ rX6_isInReach fr1 fb1 ki fi se th size p1 = 0 := by
      intro q
      exact (yR fr1 fb1 ki fi se th size p1).mp q o ho c hc ((eD o c ho (yb_lt hc) (hA o c ho hc).1).mpr (by omega))
    rw [lX6_movesTo_49_r, if_neg hlt, if_neg hr]
    congr 1
  | succ d ih =>
    intro i n fr1 fb1 hi hn hA hB
    obtain ⟨o, c, ho, hc, hh, hJ⟩ := hB
    have hlt : ¬ (64 : Int32) < Int32.ofNat i := fun q => absurd ((ylt (a := 64) (by decide) (by omega)).mp q) (by omega)
    have hr : rX6_isInReach fr1 fb1 ki fi se th size p1 = 0 := by
      refine (yR fr1 fb1 ki fi se th size p1).mpr (fun o ho c hc q => ?_)
      have h1 := hA o c ho hc
      have h2 := (eD o c ho (yb_lt hc) h1.1).mp q
      omega
    obtain ⟨m, rfl⟩ : ∃ m, n = m + 1 := ⟨n - 1, by omega⟩
    rw [lX6_movesTo_49_r, if_neg hlt, if_pos hr, yinc]
    refine ih (i + 1) m _ _ (by omega) (by omega) ?_ ?_
    · intro o' c' ho' hc'
      rw [yM, hK] at hc'
      rcases hc' with h1 | ⟨o2, ho2, h1⟩
      · have h2 := hA o' c' ho' h1
        exact ⟨h2.1, by omega⟩
      · obtain ⟨c2, hc2, h3, h4⟩ := yh_step ho2 hab ha6 hb6 hbar (fun c hc => (hA o2 c ho2 hc).1) h1
        have h5 := hA o2 c2 ho2 hc2
        exact ⟨h4, by omega⟩
    · obtain ⟨o2, c2, ho2, hc2, h1, h2, h3⟩ := yh_path (a := a) (b := b) (o := o) ho hab ha6 hb6 hwa hwb hc hJ (by omega)
      refine ⟨o2, c2, ho2, ?_, by omega, h3⟩
      rw [yM, hK]
      exact Or.inr ⟨o, ho, h1⟩
theorem yF_l (f : Nat → Int64) (v : Int64) : ∀ (n k : Nat) (f1 : Nat → Int64), n + k = 64 → ∀ j, lJ7_fill_d0a16_6_f f 64 v (n + 1) f1 (Int32.ofNat k) j = if k ≤ j ∧ j < 64 then v else f1 j := by
  intro n
  induction n with
  | zero =>
    intro k f1 hk j
    have h6 : k = 64 := by omega
    subst h6
    rw [lJ7_fill_d0a16_6_f, if_pos (by decide), if_neg (by omega)]
  | succ n ih =>
    intro k f1 hk j
    have hc : ¬ Int32.ofNat 64 ≤ Int32.ofNat k := fun q => absurd ((yle (a := 64) (by decide) (by omega)).mp q) (by omega)
    rw [lJ7_fill_d0a16_6_f, if_neg hc, yinc, ih (k + 1) _ (by omega), ynat (by omega), yupd]
    by_cases h1 : j = k
    · rw [if_neg (by omega), if_pos h1, if_pos (by omega)]
    · rw [if_neg h1]
      by_cases h2 : k + 1 ≤ j ∧ j < 64
      · rw [if_pos h2, if_pos (by omega)]
      · rw [if_neg h2, if_neg (by omega)]
theorem yF (f : Nat → Int64) {j : Nat} (hj : j < 64) : oJ7_fill_d0a16_f f 64 (0 : Int64) j = 0 := by
  refine (yF_l f 0 64 0 f rfl j).trans ?_
  rw [if_pos ⟨Nat.zero_le j, hj⟩]
theorem y63 : ∀ o, o < 64 → (Int32.ofNat o &&& 63).toNatClampNeg = o := by decide +kernel
theorem yand0 : ∀ x, x < 64 → ∀ y, y < 64 → (Int32.ofNat x &&& Int32.ofNat y = 0 ↔ x &&& y = 0) := by decide +kernel
theorem y4on (on il ba : Int32) {p : Int32} (hon : vp_in on 64) (hp : vp_in p 6) : rX4_toHaveOn on il ba p = Int32.ofNat (yo on.toNatClampNeg p.toNatClampNeg) := by
  have e : rX7_isIn on p = 0 ↔ ¬ on.toNatClampNeg.testBit p.toNatClampNeg = true := (yi_is hp (by decide)).trans (not_congr (yi_x hon _))
  unfold rX4_toHaveOn
  by_cases h : on.toNatClampNeg.testBit p.toNatClampNeg = true
  · rw [if_neg (fun q => e.mp q h), yo_on h]
    rfl
  · rw [if_pos (e.mpr h), yo_off h]
    rfl
theorem ysum (x y z : Nat) : Int32.ofNat x + Int32.ofNat y + Int32.ofNat z + 1 = Int32.ofNat (1 + x + y + z) := by
  rw [← Int32.ofNat_add, ← Int32.ofNat_add, yinc]
  congr 1
  omega
theorem y4hear (on il ba : Int32) (kn ho : Nat → Int32) {p q : Int32} (b : Nat) (hon : vp_in on 64) (hp : vp_in p 6) (hk : vp_in (kn q.toNatClampNeg) 64) : rX4_toHear on il ba kn ho p q = Int32.ofNat (yt 0 p.toNatClampNeg b on.toNatClampNeg (kn q.toNatClampNeg).toNatClampNeg) := by
  have e : rX7_isIn (kn q.toNatClampNeg) p = 0 ↔ ¬ (kn q.toNatClampNeg).toNatClampNeg.testBit p.toNatClampNeg = true := (yi_is hp (by decide)).trans (not_congr (yi_x hk _))
  have e2 : (kn q.toNatClampNeg) &&& on = 0 ↔ (kn q.toNatClampNeg).toNatClampNeg &&& on.toNatClampNeg = 0 := by
    have h := yand0 _ (zin_lt hk) _ (zin_lt hon)
    rw [← yof hk, ← yof hon] at h
    exact h
  unfold rX4_toHear yt
  rw [if_pos rfl]
  by_cases h : (kn q.toNatClampNeg).toNatClampNeg.testBit p.toNatClampNeg = true
  · rw [if_neg (fun q => e.mp q h), if_pos h]
    rfl
  · rw [if_pos (e.mpr h), if_neg h]
    by_cases h2 : (kn q.toNatClampNeg) &&& on = 0
    · rw [if_pos h2, if_pos (e2.mp h2)]
      rfl
    · rw [if_neg h2, if_neg (fun q => h2 (e2.mpr q))]
      rfl
theorem yne {x y : Int32} {n m : Nat} (hx : vp_in x n) (hy : vp_in y m) : x = y ↔ x.toNatClampNeg = y.toNatClampNeg := by
  constructor
  · intro h
    rw [h]
  · intro h
    rw [yof hx, yof hy, h]
theorem ym1 {y : Int32} {m : Nat} (hy : vp_in y m) : ¬ (-1 : Int32) = y := by
  intro h
  have h1 := (vp_in_iff.mp hy).1
  rw [← h] at h1
  exact absurd h1 (by decide)
theorem y4getN (on il ba : Int32) (kn ho : Nat → Int32) {p q w : Int32} (hp : vp_in p 6) (hh : ho w.toNatClampNeg = -1) : rX4_toGet on il ba kn ho p q w = Int32.ofNat (yt 1 p.toNatClampNeg q.toNatClampNeg on.toNatClampNeg 0) := by
  unfold rX4_toGet yt
  rw [hh, if_neg (ym1 hp), if_pos rfl, if_neg (by decide), if_pos rfl, if_neg (by omega), if_pos rfl]
  rfl
theorem y4get (on il ba : Int32) (kn ho : Nat → Int32) {p q w : Int32} (hon : vp_in on 64) (hp : vp_in p 6) (hq : vp_in q 6) (hh : vp_in (ho w.toNatClampNeg) 6) : rX4_toGet on il ba kn ho p q w = Int32.ofNat (yt 1 p.toNatClampNeg q.toNatClampNeg on.toNatClampNeg ((ho w.toNatClampNeg).toNatClampNeg + 1)) := by
  have e1 : ho w.toNatClampNeg = p ↔ (ho w.toNatClampNeg).toNatClampNeg + 1 = p.toNatClampNeg + 1 := (yne hh hp).trans (by omega)
  have e2 : ho w.toNatClampNeg = q ↔ (ho w.toNatClampNeg).toNatClampNeg + 1 = q.toNatClampNeg + 1 := (yne hh hq).trans (by omega)
  have e3 : ¬ ho w.toNatClampNeg = -1 := fun h => ym1 hh h.symm
  have k1 : ¬ (1 : Int32) = 0 := by decide
  unfold rX4_toGet yt
  rw [if_neg k1, if_pos (rfl : (1 : Int32) = 1)]
  by_cases h1 : ho w.toNatClampNeg = p
  · rw [if_pos h1, if_pos (e1.mp h1)]
    rfl
  · rw [if_neg h1, if_neg (fun q => h1 (e1.mpr q)), if_neg e3, if_neg (show ¬ (ho w.toNatClampNeg).toNatClampNeg + 1 = 0 by omega)]
    by_cases h2 : ho w.toNatClampNeg = q
    · rw [if_pos h2, if_pos (e2.mp h2)]
      rfl
    · rw [if_neg h2, if_neg (fun q => h2 (e2.mpr q)), y4on on il ba hon hh, yinc, Nat.add_sub_cancel]
      congr 1
      omega
/-- the step's case now, and the sum -/
theorem yC (ki fi se th kn ho : Nat → Int32) (size on il ba p1 bar : Int32) (hp0 : ¬ p1 < 0) (hp1 : p1 < size) (hon : vp_in on 64) (hfi : vp_in (fi p1.toNatClampNeg) 6) (hse : vp_in (se p1.toNatClampNeg) 6)
    (hk : ki p1.toNatClampNeg = 0 → vp_in (kn (th p1.toNatClampNeg).toNatClampNeg) 64 ∧ ¬ yi (kn (th p1.toNatClampNeg).toNatClampNeg) (se p1.toNatClampNeg).toNatClampNeg ∧ (¬ yi (kn (th p1.toNatClampNeg).toNatClampNeg) (fi p1.toNatClampNeg).toNatClampNeg → ¬ yi bar (fi p1.toNatClampNeg).toNatClampNeg ∧ ∃ x, x < 6 ∧ yi (kn (th p1.toNatClampNeg).toNatClampNeg) x ∧ ¬ yi il x))
    (hg : ki p1.toNatClampNeg = 1 → ho (th p1.toNatClampNeg).toNatClampNeg = -1 ∨ (vp_in (ho (th p1.toNatClampNeg).toNatClampNeg) 6 ∧ ¬ yi il (ho (th p1.toNatClampNeg).toNatClampNeg).toNatClampNeg)) :
    ∃ c : Nat, c < 64 ∧ rX6_caseNow ki fi se th size on il ba kn ho p1 = Int32.ofNat c ∧ yJ (ki p1.toNatClampNeg) il bar (fi p1.toNatClampNeg).toNatClampNeg (se p1.toNatClampNeg).toNatClampNeg c ∧ rX4_movesTo ki fi se th size on il ba kn ho p1 = Int32.ofNat (yh (ki p1.toNatClampNeg) (fi p1.toNatClampNeg).toNatClampNeg (se p1.toNatClampNeg).toNatClampNeg on.toNatClampNeg c) := by
  unfold rX6_caseNow rX4_movesTo
  rw [if_neg hp0, if_pos hp1, y4on on il ba hon hfi, y4on on il ba hon hse]
  generalize ki p1.toNatClampNeg = K at hk hg ⊢
  by_cases k0 : K = 0
  · subst k0
    obtain ⟨h1, h2, h3⟩ := hk rfl
    have hb : (kn (th p1.toNatClampNeg).toNatClampNeg).toNatClampNeg.testBit (se p1.toNatClampNeg).toNatClampNeg = false := by
      cases h : (kn (th p1.toNatClampNeg).toNatClampNeg).toNatClampNeg.testBit (se p1.toNatClampNeg).toNatClampNeg
      · rfl
      · exact absurd ((yi_x h1 _).mpr h) h2
    refine ⟨_, zin_lt h1, ?_, ⟨fun _ => ⟨hb, fun q => ?_⟩, fun q => absurd q (by decide)⟩, ?_⟩
    · rw [if_pos rfl]
      exact yof h1
    · have h4 : ¬ yi (kn (th p1.toNatClampNeg).toNatClampNeg) (fi p1.toNatClampNeg).toNatClampNeg := by
        intro q2
        rw [(yi_x h1 _).mp q2] at q
        cases q
      obtain ⟨h5, x, h6, h7, h8⟩ := h3 h4
      exact ⟨h5, x, h6, (yi_x h1 x).mp h7, h8⟩
    · rw [if_pos rfl, y4hear on il ba kn ho (se p1.toNatClampNeg).toNatClampNeg hon hfi h1, ysum]
      unfold yh
      rw [if_neg (by decide), if_neg (by decide)]
  rw [if_neg k0, if_neg k0]
  by_cases k1 : K = 1
  · subst k1
    rcases hg rfl with h1 | ⟨h1, h2⟩
    · refine ⟨0, by decide, ?_, ⟨fun q => absurd q (by decide), fun _ => Or.inl rfl⟩, ?_⟩
      · rw [if_pos rfl, h1]
        decide
      · rw [if_pos rfl, y4getN on il ba kn ho hfi h1, ysum]
        unfold yh
        rw [if_neg (by decide), if_neg (by decide)]
    · have h3 := zin_lt h1
      refine ⟨(ho (th p1.toNatClampNeg).toNatClampNeg).toNatClampNeg + 1, ?_, ?_, ⟨fun q => absurd q (by decide), fun _ => Or.inr ⟨?_, ?_, ?_⟩⟩, ?_⟩
      · omega
      · have e := yinc (ho (th p1.toNatClampNeg).toNatClampNeg).toNatClampNeg
        rw [← yof h1] at e
        rw [if_pos rfl]
        exact e
      · omega
      · omega
      · rw [Nat.add_sub_cancel]
        exact h2
      · rw [if_pos rfl, y4get on il ba kn ho hon hfi hse h1, ysum]
        unfold yh
        rw [if_neg (by decide), if_neg (by decide)]
  rw [if_neg k1, if_neg k1]
  refine ⟨0, by decide, rfl, ⟨fun q => absurd q k0, fun q => absurd q k1⟩, ?_⟩
  have e : rX7_isIn on (fi p1.toNatClampNeg) = 0 ↔ ¬ on.toNatClampNeg.testBit (fi p1.toNatClampNeg).toNatClampNeg = true := (yi_is hfi (by decide)).trans (not_congr (yi_x hon _))
  unfold yh
  by_cases k2 : K = 2
  · rw [if_pos k2, if_pos k2]
    by_cases oa : on.toNatClampNeg.testBit (fi p1.toNatClampNeg).toNatClampNeg = true
    · rw [if_neg (fun q => e.mp q oa), yo_on oa]
      rfl
    · rw [if_pos (e.mpr oa), yo_off oa]
      rfl
  rw [if_neg k2, if_neg k2]
  by_cases k3 : K = 3
  · rw [if_pos k3, if_pos k3]
    by_cases oa : on.toNatClampNeg.testBit (fi p1.toNatClampNeg).toNatClampNeg = true
    · rw [if_neg (fun q => e.mp q oa), yo_on oa]
      rfl
    · rw [if_pos (e.mpr oa), yo_off oa]
      rfl
  rw [if_neg k3, if_neg k3]
  have t : yt K (fi p1.toNatClampNeg).toNatClampNeg (se p1.toNatClampNeg).toNatClampNeg on.toNatClampNeg 0 = 0 := by
    unfold yt
    rw [if_neg k0, if_neg k1]
  rw [t, ← Int32.ofNat_add, yinc]
  congr 1
  omega
theorem yhle (K : Int32) (a b o c : Nat) : yh K a b o c ≤ 5 := by
  have A := yo1 o a
  have B := yo1 o b
  have T := yt2 K a b o c
  unfold yh
  repeat' split
  all_goals omega
theorem yh1 (K : Int32) (a b o c : Nat) : 1 ≤ yh K a b o c := by
  have A := yo1 o a
  unfold yh
  repeat' split
  all_goals omega
theorem yW (fr fb : Nat → Int64) (ki fi se th kn ho : Nat → Int32) (size on il ba p1 : Int32) (hp0 : ¬ p1 < 0) (hp1 : p1 < size) (hon : vp_in on 64) (hfi : vp_in (fi p1.toNatClampNeg) 6) (hse : vp_in (se p1.toNatClampNeg) 6) (hab : ¬ fi p1.toNatClampNeg = se p1.toNatClampNeg) (hwa : ¬ yi il (fi p1.toNatClampNeg).toNatClampNeg) (hwb : ¬ ki p1.toNatClampNeg = 2 → ¬ ki p1.toNatClampNeg = 3 → ¬ yi il (se p1.toNatClampNeg).toNatClampNeg)
    (hbar : ki p1.toNatClampNeg = 0 → yi (rX0_listenersFrom ki fi se th size p1 (th p1.toNatClampNeg)) (se p1.toNatClampNeg).toNatClampNeg)
    (hk : ki p1.toNatClampNeg = 0 → vp_in (kn (th p1.toNatClampNeg).toNatClampNeg) 64 ∧ ¬ yi (kn (th p1.toNatClampNeg).toNatClampNeg) (se p1.toNatClampNeg).toNatClampNeg ∧ (¬ yi (kn (th p1.toNatClampNeg).toNatClampNeg) (fi p1.toNatClampNeg).toNatClampNeg → ¬ yi (rX0_listenersFrom ki fi se th size p1 (th p1.toNatClampNeg)) (fi p1.toNatClampNeg).toNatClampNeg ∧ ∃ x, x < 6 ∧ yi (kn (th p1.toNatClampNeg).toNatClampNeg) x ∧ ¬ yi il x))
    (hg : ki p1.toNatClampNeg = 1 → ho (th p1.toNatClampNeg).toNatClampNeg = -1 ∨ (vp_in (ho (th p1.toNatClampNeg).toNatClampNeg) 6 ∧ ¬ yi il (ho (th p1.toNatClampNeg).toNatClampNeg).toNatClampNeg)) :
    rX6_movesTo fr fb ki fi se th size on il ba kn ho p1 = rX4_movesTo ki fi se th size on il ba kn ho p1 := by
  obtain ⟨c0, hc0, e1, hJ, e2⟩ := yC ki fi se th kn ho size on il ba p1 (rX0_listenersFrom ki fi se th size p1 (th p1.toNatClampNeg)) hp0 hp1 hon hfi hse hk hg
  rw [e2]
  unfold rX6_movesTo
  rw [if_neg hp0, if_pos hp1, e1]
  have eo : (on &&& 63).toNatClampNeg = on.toNatClampNeg := by
    have h := y63 _ (zin_lt hon)
    rw [← yof hon] at h
    exact h
  rw [eo]
  have hab' : (fi p1.toNatClampNeg).toNatClampNeg ≠ (se p1.toNatClampNeg).toNatClampNeg := fun q => hab ((yne hfi hse).mpr q)
  have hst : ∀ o c, o < 64 → (yb (vp_updL (oJ7_fill_d0a16_f fr 64 (0 : Int64)) on.toNatClampNeg ((1 : Int64) <<< ((Int32.ofNat c0).toInt64 &&& 63)) o) c ↔ (o = on.toNatClampNeg ∧ c = c0)) := by
    intro o c ho
    rw [yupd]
    by_cases h : o = on.toNatClampNeg
    · rw [if_pos h]
      constructor
      · intro q
        have q2 := yb_lt q
        unfold yb at q
        rw [yse c0 hc0 c q2, decide_eq_true_eq] at q
        exact ⟨h, q⟩
      · intro q
        unfold yb
        rw [yse c0 hc0 c (by omega), decide_eq_true_eq]
        exact q.2
    · rw [if_neg h, yF fr ho]
      exact ⟨fun q => absurd q (yb_0 c), fun q => absurd q.1 h⟩
  have hle := yhle (ki p1.toNatClampNeg) (fi p1.toNatClampNeg).toNatClampNeg (se p1.toNatClampNeg).toNatClampNeg on.toNatClampNeg c0
  have hge := yh1 (ki p1.toNatClampNeg) (fi p1.toNatClampNeg).toNatClampNeg (se p1.toNatClampNeg).toNatClampNeg on.toNatClampNeg c0
  refine yW_l fr fb ki fi se th kn ho size on il ba p1 _ _ _ _ hfi hse rfl rfl rfl hab' hwa hwb hbar (by omega) (yh (ki p1.toNatClampNeg) (fi p1.toNatClampNeg).toNatClampNeg (se p1.toNatClampNeg).toNatClampNeg on.toNatClampNeg c0 - 1) 1 65 _ fb (by omega) (by omega) ?_ ?_
  · intro o c ho hc
    obtain ⟨h1, h2⟩ := (hst o c ho).mp hc
    rw [h1, h2]
    exact ⟨fun q => (hJ.1 q).1, by omega⟩
  · exact ⟨on.toNatClampNeg, c0, zin_lt hon, (hst _ _ (zin_lt hon)).mpr ⟨rfl, rfl⟩, by omega, hJ⟩
