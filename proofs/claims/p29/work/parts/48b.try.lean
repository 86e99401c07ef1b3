/-! the way by trying: one more move -/
theorem yE_j (fr1 fb : Nat → Int64) (on il ba : Int32) {o m : Nat} (ho : o < 64) (hm : m < 6) (o' c : Nat) : yb (jX6_tryEntersAndExits_41_0 fr1 fb on il ba (Int32.ofNat o) fr1 (Int32.ofNat m) o') c ↔ (yb (fr1 o') c ∨ (¬ yi il m ∧ o' = o ^^^ 2 ^ m ∧ yb (fb o) c)) := by
  have e1 := yxx o ho m hm
  have e2 := ynat (n := o) (by omega)
  have e3 : rX7_isIn il (Int32.ofNat m) = 0 ↔ ¬ yi il m := yi_isN (by omega)
  unfold jX6_tryEntersAndExits_41_0
  rw [e1, e2]
  by_cases h : yi il m
  · rw [if_neg (fun q => (e3.mp q) h)]
    exact ⟨Or.inl, fun q => q.elim id (fun q => absurd h q.1)⟩
  · rw [if_pos (e3.mpr h), yupd]
    by_cases h2 : o' = o ^^^ 2 ^ m
    · rw [if_pos h2, yb_or, ← h2]
      exact ⟨fun q => q.elim Or.inl (fun q => Or.inr ⟨h, rfl, q⟩), fun q => q.elim Or.inl (fun q => Or.inr q.2.2)⟩
    · rw [if_neg h2]
      exact ⟨Or.inl, fun q => q.elim id (fun q => absurd q.2.1 h2)⟩
theorem yE_j2 (fr fr1 fb : Nat → Int64) (on il ba p i : Int32) : jX6_tryEntersAndExits_41_0 fr fb on il ba p fr1 i = jX6_tryEntersAndExits_41_0 fr1 fb on il ba p fr1 i := rfl
theorem yE_l (fr fb : Nat → Int64) (on il ba : Int32) {o : Nat} (ho : o < 64) : ∀ (n k : Nat) (fr1 : Nat → Int64), n + k = 6 → ∀ o' c, yb (lX6_tryEntersAndExits_2_fr fr fb on il ba (Int32.ofNat o) (n + 1) fr1 (Int32.ofNat k) o') c ↔ (yb (fr1 o') c ∨ ∃ m, k ≤ m ∧ m < 6 ∧ ¬ yi il m ∧ o' = o ^^^ 2 ^ m ∧ yb (fb o) c) := by
  intro n
  induction n with
  | zero =>
    intro k fr1 hk o' c
    have h6 : k = 6 := by omega
    subst h6
    rw [lX6_tryEntersAndExits_2_fr, if_pos (by decide)]
    exact ⟨Or.inl, fun q => q.elim id (fun ⟨m, h1, h2, _⟩ => absurd h2 (by omega))⟩
  | succ n ih =>
    intro k fr1 hk o' c
    have hc : ¬ (6 : Int32) ≤ Int32.ofNat k := fun q => absurd ((yle (a := 6) (by decide) (by omega)).mp q) (by omega)
    rw [lX6_tryEntersAndExits_2_fr, if_neg hc, yinc, ih (k + 1) _ (by omega), yE_j2, yE_j _ _ _ _ _ ho (by omega)]
    constructor
    · rintro ((h | h) | ⟨m, h1, h2, h3⟩)
      · exact Or.inl h
      · exact Or.inr ⟨k, Nat.le_refl k, by omega, h⟩
      · exact Or.inr ⟨m, by omega, h2, h3⟩
    · rintro (h | ⟨m, h1, h2, h3⟩)
      · exact Or.inl (Or.inl h)
      · rcases Nat.eq_or_lt_of_le h1 with h4 | h4
        · exact Or.inl (Or.inr (h4 ▸ h3))
        · exact Or.inr ⟨m, h4, h2, h3⟩
theorem yE (fr fb : Nat → Int64) (on il ba : Int32) {o : Nat} (ho : o < 64) (o' c : Nat) : yb (oX6_tryEntersAndExits_fr fr fb on il ba (Int32.ofNat o) o') c ↔ (yb (fr o') c ∨ ∃ m, m < 6 ∧ ¬ yi il m ∧ o' = o ^^^ 2 ^ m ∧ yb (fb o) c) := by
  refine (yE_l fr fb on il ba ho 6 0 fr rfl o' c).trans ?_
  constructor
  · rintro (h | ⟨m, h1, h2, h3⟩)
    · exact Or.inl h
    · exact Or.inr ⟨m, h2, h3⟩
  · rintro (h | ⟨m, h2, h3⟩)
    · exact Or.inl h
    · exact Or.inr ⟨m, Nat.zero_le m, h2, h3⟩
def yT (X : Int64) (o : Nat) (bar : Int32) (x y c' : Nat) : Prop := o.testBit x = true ∧ o.testBit y = true ∧ ¬ yi bar y ∧ ∃ c, yb X c ∧ c.testBit x = true ∧ c.testBit y = false ∧ c' = c + 2 ^ y
theorem yT_s (X : Int64) {x y : Nat} (hx : x < 6) (hy : y < 6) (c' : Nat) : yb (((X &&& (zKT x)) &&& ((zKT y) ^^^ (-1 : Int64))) <<< ((((1 : Int32) <<< (Int32.ofNat y &&& 31)).toInt64) &&& 63)) c' ↔ ∃ c, yb X c ∧ c.testBit x = true ∧ c.testBit y = false ∧ c' = c + 2 ^ y := by
  rw [yb_shl _ hy, yb_and, yb_and]
  constructor
  · rintro ⟨h1, h2, ⟨h3, h4⟩, h5⟩
    have h6 := yb_lt h3
    exact ⟨c' - 2 ^ y, h3, (yb_kt hx h6).mp h4, (yb_nk hy h6).mp h5, by omega⟩
  · rintro ⟨c, h3, h4, h5, h6⟩
    have h7 := yb_lt h3
    have h8 := (yad c h7 y hy h5).1
    have h9 : c' - 2 ^ y = c := by omega
    rw [h9]
    exact ⟨by omega, by omega, ⟨h3, (yb_kt hx h7).mpr h4⟩, (yb_nk hy h7).mpr h5⟩
theorem yT_j (fr fb : Nat → Int64) (bar : Int32) {o x y : Nat} (ho : o < 64) (hx : x < 6) (hy : y < 6) (cs1 cs2 : Int64) (c' : Nat) : yb (jX6_casesAfterTelling_76_0 fr fb (Int32.ofNat o) bar cs1 (Int32.ofNat x) cs2 (Int32.ofNat y)) c' ↔ (yb cs2 c' ∨ yT (fb o) o bar x y c') := by
  have e1 : rX7_isIn (Int32.ofNat o) (Int32.ofNat x) = 0 ↔ ¬ (o.testBit x = true) := (yi_isN (by omega)).trans (not_congr (yi_nat ho))
  have e2 : rX7_isIn (Int32.ofNat o &&& (bar ^^^ (-1))) (Int32.ofNat y) = 0 ↔ ¬ (o.testBit y = true ∧ ¬ yi bar y) := by
    refine (yi_isN (by omega)).trans (not_congr ?_)
    rw [yi_and, yi_nat ho, yi_not _ (by omega)]
  have e3 := ynat (n := o) (by omega)
  have e4 := ynat (n := x) (by omega)
  have e5 := ynat (n := y) (by omega)
  unfold jX6_casesAfterTelling_76_0
  rw [e3, e4, e5]
  by_cases h1 : o.testBit x = true
  · rw [if_neg (fun q => e1.mp q h1)]
    by_cases h2 : o.testBit y = true ∧ ¬ yi bar y
    · rw [if_neg (fun q => e2.mp q h2), yb_or, yT_s _ hx hy]
      exact ⟨fun q => q.elim Or.inl (fun q => Or.inr ⟨h1, h2.1, h2.2, q⟩), fun q => q.elim Or.inl (fun q => Or.inr q.2.2.2)⟩
    · rw [if_pos (e2.mpr h2)]
      exact ⟨Or.inl, fun q => q.elim id (fun q => absurd ⟨q.2.1, q.2.2.1⟩ h2)⟩
  · rw [if_pos (e1.mpr h1)]
    exact ⟨Or.inl, fun q => q.elim id (fun q => absurd q.1 h1)⟩
theorem yT_l (fr fb : Nat → Int64) (bar : Int32) {o x : Nat} (ho : o < 64) (hx : x < 6) (cs1 : Int64) (k5 : Int64 → Int32 → Int64) : ∀ (n k : Nat) (cs2 : Int64), n + k = 6 → ∃ cs3, lX6_casesAfterTelling_15_r fr fb (Int32.ofNat o) bar cs1 (Int32.ofNat x) k5 (n + 1) cs2 (Int32.ofNat k) = k5 cs3 (Int32.ofNat (x + 1)) ∧ ∀ c', yb cs3 c' ↔ (yb cs2 c' ∨ ∃ y, k ≤ y ∧ y < 6 ∧ yT (fb o) o bar x y c') := by
  intro n
  induction n with
  | zero =>
    intro k cs2 hk
    have h6 : k = 6 := by omega
    subst h6
    refine ⟨cs2, ?_, fun c' => ⟨Or.inl, fun q => q.elim id (fun ⟨m, h1, h2, _⟩ => absurd h2 (by omega))⟩⟩
    rw [lX6_casesAfterTelling_15_r, if_pos (by decide), yinc]
  | succ n ih =>
    intro k cs2 hk
    have hc : ¬ (6 : Int32) ≤ Int32.ofNat k := fun q => absurd ((yle (a := 6) (by decide) (by omega)).mp q) (by omega)
    obtain ⟨cs3, h1, h2⟩ := ih (k + 1) (jX6_casesAfterTelling_76_0 fr fb (Int32.ofNat o) bar cs1 (Int32.ofNat x) cs2 (Int32.ofNat k)) (by omega)
    refine ⟨cs3, ?_, fun c' => ?_⟩
    · rw [lX6_casesAfterTelling_15_r, if_neg hc, yinc, h1]
    · rw [h2, yT_j _ _ _ ho hx (by omega)]
      constructor
      · rintro ((h | h) | ⟨m, h1, h2, h3⟩)
        · exact Or.inl h
        · exact Or.inr ⟨k, Nat.le_refl k, by omega, h⟩
        · exact Or.inr ⟨m, by omega, h2, h3⟩
      · rintro (h | ⟨m, h1, h2, h3⟩)
        · exact Or.inl (Or.inl h)
        · rcases Nat.eq_or_lt_of_le h1 with h4 | h4
          · exact Or.inl (Or.inr (h4 ▸ h3))
          · exact Or.inr ⟨m, h4, h2, h3⟩
theorem yT_m (fr fb : Nat → Int64) (bar : Int32) {o : Nat} (ho : o < 64) : ∀ (n k : Nat) (cs : Int64), n + k = 6 → ∀ c', yb (lX6_casesAfterTelling_5_r fr fb (Int32.ofNat o) bar (n + 1) cs (Int32.ofNat k)) c' ↔ (yb cs c' ∨ ∃ x, k ≤ x ∧ x < 6 ∧ ∃ y, y < 6 ∧ yT (fb o) o bar x y c') := by
  intro n
  induction n with
  | zero =>
    intro k cs hk c'
    have h6 : k = 6 := by omega
    subst h6
    rw [lX6_casesAfterTelling_5_r, if_pos (by decide)]
    exact ⟨Or.inl, fun q => q.elim id (fun ⟨m, h1, h2, _⟩ => absurd h2 (by omega))⟩
  | succ n ih =>
    intro k cs hk c'
    have hc : ¬ (6 : Int32) ≤ Int32.ofNat k := fun q => absurd ((yle (a := 6) (by decide) (by omega)).mp q) (by omega)
    obtain ⟨cs3, e, h3⟩ := yT_l fr fb bar ho (x := k) (by omega) cs (fun cs1 a1 => lX6_casesAfterTelling_5_r fr fb (Int32.ofNat o) bar (n + 1) cs1 a1) 6 0 cs rfl
    rw [lX6_casesAfterTelling_5_r, if_neg hc]
    refine (iff_of_eq (congrArg (fun z => yb z c') e)).trans ?_
    show yb (lX6_casesAfterTelling_5_r fr fb (Int32.ofNat o) bar (n + 1) cs3 (Int32.ofNat (k + 1))) c' ↔ _
    rw [ih (k + 1) cs3 (by omega), h3]
    constructor
    · rintro ((h | ⟨y, _, h1, h2⟩) | ⟨m, h1, h2, h3⟩)
      · exact Or.inl h
      · exact Or.inr ⟨k, Nat.le_refl k, by omega, y, h1, h2⟩
      · exact Or.inr ⟨m, by omega, h2, h3⟩
    · rintro (h | ⟨m, h1, h2, y, h3, h4⟩)
      · exact Or.inl (Or.inl h)
      · rcases Nat.eq_or_lt_of_le h1 with h5 | h5
        · subst h5
          exact Or.inl (Or.inr ⟨y, Nat.zero_le y, h3, h4⟩)
        · exact Or.inr ⟨m, h5, h2, y, h3, h4⟩
theorem yTT (fr fb : Nat → Int64) (bar : Int32) {o : Nat} (ho : o < 64) (c' : Nat) : yb (rX6_casesAfterTelling fr fb (Int32.ofNat o) bar) c' ↔ ∃ x, x < 6 ∧ ∃ y, y < 6 ∧ yT (fb o) o bar x y c' := by
  refine (yT_m fr fb bar ho 6 0 0 rfl c').trans ?_
  constructor
  · rintro (h | ⟨x, _, h1, h2⟩)
    · exact absurd h (yb_0 c')
    · exact ⟨x, h1, h2⟩
  · rintro ⟨x, h1, h2⟩
    exact Or.inr ⟨x, Nat.zero_le x, h1, h2⟩
theorem yGG (fr fb : Nat → Int64) {o : Nat} (ho : o < 64) (c' : Nat) : yb (rX6_casesAfterGiving fr fb (Int32.ofNat o)) c' ↔ ((∃ c, yb (fb o) c ∧ (c = 0 ∨ o.testBit (c - 1) = true)) ∧ 1 ≤ c' ∧ o.testBit (c' - 1) = true) := by
  have e3 := ynat (n := o) (by omega)
  have hb : ∀ c, yb ((Int32.ofNat o).toInt64 <<< ((1 : Int32).toInt64 &&& 63)) c ↔ (1 ≤ c ∧ o.testBit (c - 1) = true) := by
    intro c
    constructor
    · intro h
      have h1 := yb_lt h
      have h2 := yon o ho c h1
      unfold yb at h
      rw [h2, Bool.and_eq_true, decide_eq_true_eq] at h
      exact h
    · intro h
      have h1 := ytb ho h.2
      have h2 := yon o ho c (by omega)
      unfold yb
      rw [h2, Bool.and_eq_true, decide_eq_true_eq]
      exact h
  have h1 : ∀ c, c < 64 → (yb (1 : Int64) c ↔ c = 0) := by
    intro c hc
    unfold yb
    rw [yl1 c hc, decide_eq_true_eq]
  have hx : lg_cmp (fb o &&& ((Int32.ofNat o).toInt64 <<< ((1 : Int32).toInt64 &&& 63) ||| (1 : Int64))) (0 : Int64) = 0 ↔ ¬ ∃ c, yb (fb o) c ∧ (c = 0 ∨ o.testBit (c - 1) = true) := by
    rw [ycmp0]
    constructor
    · rintro h ⟨c, h2, h3⟩
      refine h c ?_
      rw [yb_and, yb_or, hb, h1 c (yb_lt h2)]
      refine ⟨h2, ?_⟩
      rcases h3 with h3 | h3
      · exact Or.inr h3
      · rcases Nat.eq_zero_or_pos c with h4 | h4
        · exact Or.inr h4
        · exact Or.inl ⟨h4, h3⟩
    · intro h c h2
      rw [yb_and, yb_or, hb] at h2
      refine h ⟨c, h2.1, ?_⟩
      rcases h2.2 with h3 | h3
      · exact Or.inr h3.2
      · exact Or.inl ((h1 c (yb_lt h2.1)).mp h3)
  unfold rX6_casesAfterGiving
  rw [e3]
  by_cases h : ∃ c, yb (fb o) c ∧ (c = 0 ∨ o.testBit (c - 1) = true)
  · rw [if_neg (fun q => hx.mp q h), hb]
    exact ⟨fun q => ⟨h, q⟩, fun q => q.2⟩
  · rw [if_pos (hx.mpr h)]
    exact ⟨fun q => absurd q (yb_0 c'), fun q => absurd q.1 h⟩
def yN (K il bar : Int32) (X : Int64) (o o' c' : Nat) : Prop :=
  (∃ m, m < 6 ∧ ¬ yi il m ∧ o' = o ^^^ 2 ^ m ∧ yb X c') ∨ (K = 0 ∧ o' = o ∧ ∃ x, x < 6 ∧ ∃ y, y < 6 ∧ yT X o bar x y c') ∨ (K = 1 ∧ o' = o ∧ ((∃ c, yb X c ∧ (c = 0 ∨ o.testBit (c - 1) = true)) ∧ 1 ≤ c' ∧ o.testBit (c' - 1) = true))
theorem yN0 {K il bar : Int32} {o o' c' : Nat} : ¬ yN K il bar 0 o o' c' := by
  rintro (⟨m, _, _, _, h⟩ | ⟨_, _, x, _, y, _, _, _, _, c, h, _⟩ | ⟨_, _, ⟨c, h, _⟩, _⟩)
  · exact yb_0 _ h
  · exact yb_0 _ h
  · exact yb_0 _ h
theorem ycpy (fr fb : Nat → Int64) {o : Nat} (ho : o < 64) : va_cpy fr fb ((0 : Int32)).toNatClampNeg ((0 : Int32)).toNatClampNeg ((64 : Int32)).toNatClampNeg o = fr o := by
  show (if 0 ≤ o ∧ o < 0 + 64 then fr (0 + (o - 0)) else fb o) = fr o
  rw [if_pos ⟨Nat.zero_le o, by omega⟩]
  congr 1
  omega
theorem yM_j (fr fb : Nat → Int64) (ki fi se th : Nat → Int32) (size on il ba p1 : Int32) (fr1 : Nat → Int64) {o : Nat} (ho : o < 64) (o' c' : Nat) : yb (jX6_tryOneMoreMove_116_0 fr fb ki fi se th size on il ba p1 fr1 (Int32.ofNat o) o') c' ↔ (yb (fr1 o') c' ∨ yN (ki p1.toNatClampNeg) il (rX0_listenersFrom ki fi se th size p1 (th p1.toNatClampNeg)) (fr o) o o' c') := by
  have e3 := ynat (n := o) (by omega)
  have hcp := ycpy fr fb ho
  unfold jX6_tryOneMoreMove_116_0
  rw [e3]
  generalize va_cpy fr fb ((0 : Int32)).toNatClampNeg ((0 : Int32)).toNatClampNeg ((64 : Int32)).toNatClampNeg = cp at hcp ⊢
  generalize rX0_listenersFrom ki fi se th size p1 (th p1.toNatClampNeg) = bar
  generalize ki p1.toNatClampNeg = K
  rw [hcp]
  by_cases h0 : fr o = 0
  · rw [if_pos ((ycmp _).mpr h0), h0]
    exact ⟨Or.inl, fun q => q.elim id (fun q => absurd q yN0)⟩
  · rw [if_neg (fun q => h0 ((ycmp _).mp q))]
    have hE := fun o' c => yE fr1 cp on il ba ho o' c
    rw [hcp] at hE
    by_cases k0 : K = 0
    · have k1 : ¬ K = 1 := fun q => absurd (k0.symm.trans q) (by decide)
      rw [if_pos k0, yupd]
      by_cases h1 : o' = o
      · rw [if_pos h1, yb_or, hE, yTT _ _ _ ho, hcp, ← h1]
        unfold yN
        constructor
        · rintro ((h | h) | h)
          · exact Or.inl h
          · exact Or.inr (Or.inl h)
          · exact Or.inr (Or.inr (Or.inl ⟨k0, rfl, h⟩))
        · rintro (h | h | h | h)
          · exact Or.inl (Or.inl h)
          · exact Or.inl (Or.inr h)
          · exact Or.inr h.2.2
          · exact absurd h.1 k1
      · rw [if_neg h1, hE]
        unfold yN
        constructor
        · rintro (h | h)
          · exact Or.inl h
          · exact Or.inr (Or.inl h)
        · rintro (h | h | h | h)
          · exact Or.inl h
          · exact Or.inr h
          · exact absurd h.2.1 h1
          · exact absurd h.1 k1
    · rw [if_neg k0]
      by_cases k1 : K = 1
      · rw [if_pos k1, yupd]
        by_cases h1 : o' = o
        · rw [if_pos h1, yb_or, hE, yGG _ _ ho, hcp, ← h1]
          unfold yN
          constructor
          · rintro ((h | h) | h)
            · exact Or.inl h
            · exact Or.inr (Or.inl h)
            · exact Or.inr (Or.inr (Or.inr ⟨k1, rfl, h⟩))
          · rintro (h | h | h | h)
            · exact Or.inl (Or.inl h)
            · exact Or.inl (Or.inr h)
            · exact absurd h.1 k0
            · exact Or.inr h.2.2
        · rw [if_neg h1, hE]
          unfold yN
          constructor
          · rintro (h | h)
            · exact Or.inl h
            · exact Or.inr (Or.inl h)
          · rintro (h | h | h | h)
            · exact Or.inl h
            · exact Or.inr h
            · exact absurd h.1 k0
            · exact absurd h.2.1 h1
      · rw [if_neg k1, hE]
        unfold yN
        constructor
        · rintro (h | h)
          · exact Or.inl h
          · exact Or.inr (Or.inl h)
        · rintro (h | h | h | h)
          · exact Or.inl h
          · exact Or.inr h
          · exact absurd h.1 k0
          · exact absurd h.1 k1
theorem yM_l (fr fb : Nat → Int64) (ki fi se th : Nat → Int32) (size on il ba p1 : Int32) : ∀ (n k : Nat) (fr1 : Nat → Int64), n + k = 64 → ∀ o' c', yb (lX6_tryOneMoreMove_46_fr fr fb ki fi se th size on il ba p1 (n + 1) fr1 (Int32.ofNat k) o') c' ↔ (yb (fr1 o') c' ∨ ∃ o, k ≤ o ∧ o < 64 ∧ yN (ki p1.toNatClampNeg) il (rX0_listenersFrom ki fi se th size p1 (th p1.toNatClampNeg)) (fr o) o o' c') := by
  intro n
  induction n with
  | zero =>
    intro k fr1 hk o' c'
    have h6 : k = 64 := by omega
    subst h6
    rw [lX6_tryOneMoreMove_46_fr, if_pos (by decide)]
    exact ⟨Or.inl, fun q => q.elim id (fun ⟨m, h1, h2, _⟩ => absurd h2 (by omega))⟩
  | succ n ih =>
    intro k fr1 hk o' c'
    have hc : ¬ (64 : Int32) ≤ Int32.ofNat k := fun q => absurd ((yle (a := 64) (by decide) (by omega)).mp q) (by omega)
    rw [lX6_tryOneMoreMove_46_fr, if_neg hc, yinc, ih (k + 1) _ (by omega), yM_j _ _ _ _ _ _ _ _ _ _ _ _ (by omega)]
    constructor
    · rintro ((h | h) | ⟨m, h1, h2, h3⟩)
      · exact Or.inl h
      · exact Or.inr ⟨k, Nat.le_refl k, by omega, h⟩
      · exact Or.inr ⟨m, by omega, h2, h3⟩
    · rintro (h | ⟨m, h1, h2, h3⟩)
      · exact Or.inl (Or.inl h)
      · rcases Nat.eq_or_lt_of_le h1 with h4 | h4
        · subst h4
          exact Or.inl (Or.inr h3)
        · exact Or.inr ⟨m, h4, h2, h3⟩
theorem yM (fr fb : Nat → Int64) (ki fi se th : Nat → Int32) (size on il ba p1 : Int32) (o' c' : Nat) : yb (oX6_tryOneMoreMove_fr fr fb ki fi se th size on il ba p1 o') c' ↔ (yb (fr o') c' ∨ ∃ o, o < 64 ∧ yN (ki p1.toNatClampNeg) il (rX0_listenersFrom ki fi se th size p1 (th p1.toNatClampNeg)) (fr o) o o' c') := by
  refine (yM_l fr fb ki fi se th size on il ba p1 64 0 fr rfl o' c').trans ?_
  constructor
  · rintro (h | ⟨m, h1, h2, h3⟩)
    · exact Or.inl h
    · exact Or.inr ⟨m, h2, h3⟩
  · rintro (h | ⟨m, h2, h3⟩)
    · exact Or.inl h
    · exact Or.inr ⟨m, Nat.zero_le m, h2, h3⟩
theorem yR_l (fr fb : Nat → Int64) (ki fi se th : Nat → Int32) (size p1 : Int32) : ∀ (n k : Nat), n + k = 64 → (lX6_isInReach_2_r fr fb ki fi se th size p1 (n + 1) (Int32.ofNat k) = 0 ↔ ∀ o, k ≤ o → o < 64 → ∀ c, yb (fr o) c → ¬ yb (rX6_casesThatDo ki fi se th size p1 (Int32.ofNat o)) c) := by
  intro n
  induction n with
  | zero =>
    intro k hk
    have h6 : k = 64 := by omega
    subst h6
    rw [lX6_isInReach_2_r, if_pos (by decide)]
    exact ⟨fun _ o h1 h2 => absurd h2 (by omega), fun _ => rfl⟩
  | succ n ih =>
    intro k hk
    have hc : ¬ (64 : Int32) ≤ Int32.ofNat k := fun q => absurd ((yle (a := 64) (by decide) (by omega)).mp q) (by omega)
    have e3 := ynat (n := k) (by omega)
    rw [lX6_isInReach_2_r, if_neg hc, e3, yinc]
    have hk2 : (∀ c, yb (fr k) c → ¬ yb (rX6_casesThatDo ki fi se th size p1 (Int32.ofNat k)) c) → ((∀ o, k + 1 ≤ o → o < 64 → ∀ c, yb (fr o) c → ¬ yb (rX6_casesThatDo ki fi se th size p1 (Int32.ofNat o)) c) ↔ ∀ o, k ≤ o → o < 64 → ∀ c, yb (fr o) c → ¬ yb (rX6_casesThatDo ki fi se th size p1 (Int32.ofNat o)) c) := by
      intro hq
      constructor
      · intro h o h1 h2
        rcases Nat.eq_or_lt_of_le h1 with h4 | h4
        · subst h4
          exact hq
        · exact h o h4 h2
      · intro h o h1 h2
        exact h o (by omega) h2
    by_cases h0 : lg_cmp (fr k) (0 : Int64) = 0
    · rw [if_pos h0, ih (k + 1) (by omega)]
      exact hk2 (fun c hc => absurd hc ((ycmp0 _).mp h0 c))
    · rw [if_neg h0]
      by_cases h1 : lg_cmp (fr k &&& rX6_casesThatDo ki fi se th size p1 (Int32.ofNat k)) (0 : Int64) = 0
      · rw [if_pos h1, ih (k + 1) (by omega)]
        exact hk2 (fun c hc hd => (ycmp0 _).mp h1 c ((yb_and _ _ _).mpr ⟨hc, hd⟩))
      · rw [if_neg h1]
        constructor
        · intro q
          exact absurd q (by decide)
        · intro q
          exact absurd ((ycmp0 _).mpr (fun c hc => q k (Nat.le_refl k) (by omega) c ((yb_and _ _ _).mp hc).1 ((yb_and _ _ _).mp hc).2)) h1
theorem yR (fr fb : Nat → Int64) (ki fi se th : Nat → Int32) (size p1 : Int32) : rX6_isInReach fr fb ki fi se th size p1 = 0 ↔ ∀ o, o < 64 → ∀ c, yb (fr o) c → ¬ yb (rX6_casesThatDo ki fi se th size p1 (Int32.ofNat o)) c := by
  refine (yR_l fr fb ki fi se th size p1 64 0 rfl).trans ?_
  exact ⟨fun h o h2 => h o (Nat.zero_le o) h2, fun h o _ h2 => h o h2⟩
