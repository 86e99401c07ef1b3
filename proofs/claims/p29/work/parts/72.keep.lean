/-! what is kept, by the calls that the law makes -/
/-! what is kept -/
def ycan (size : Int32) (ki fi se th : Nat → Int32) : Prop := 0 ≤ size.toInt ∧ size.toInt ≤ 12 ∧ (∀ j : Nat, j < 12 → vp_in (ki j) 5) ∧ (∀ j : Nat, j < 12 → vp_in (fi j) 6) ∧ (∀ j : Nat, j < 12 → vp_in (se j) 6) ∧ (∀ j : Nat, j < 12 → vp_in (th j) 4) ∧ (∀ j : Nat, (j : Int) < size.toInt → ¬ fi j = se j)
def ygag (gs : Int32) (wi pr : Nat → Int32) : Prop := 0 ≤ gs.toInt ∧ gs.toInt ≤ 6 ∧ (∀ j : Nat, j < 6 → vp_in (wi j) 1001) ∧ (∀ j : Nat, j < 6 → pr j = -1 ∨ vp_in (pr j) 4)
def ynig (ni nx size : Int32) : Prop := ni = 1 → 0 ≤ nx.toInt ∧ nx.toInt < size.toInt
def ystg (on il : Int32) : Prop := vp_in on 64 ∧ vp_in il 64 ∧ on &&& il = 0
def yKn (f : Nat → Int32) : Prop := (∀ j : Nat, j < 4 → vp_in (f j) 64) ∧ ∀ j : Nat, 4 ≤ j → f j = 0
def yHo (f : Nat → Int32) : Prop := (∀ j : Nat, j < 4 → f j = -1 ∨ vp_in (f j) 6) ∧ ∀ j : Nat, 4 ≤ j → f j = 0
theorem yx2 {a b : Nat} (h : (if a = 0 then b else a) = 0) : a = 0 ∧ b = 0 := by
  by_cases q : a = 0
  · rw [if_pos q] at h
    exact ⟨q, h⟩
  · rw [if_neg q] at h
    exact absurd h q
theorem yrng {p a b : Int32} (h : xX7_needRange p a b = 0) : a.toInt ≤ p.toInt ∧ p.toInt ≤ b.toInt := by
  unfold xX7_needRange at h
  by_cases h1 : p < a
  · rw [if_pos h1] at h
    exact absurd h (by decide)
  · rw [if_neg h1] at h
    by_cases h2 : p ≤ b
    · rw [Int32.lt_iff_toInt_lt] at h1
      rw [Int32.le_iff_toInt_le] at h2
      omega
    · rw [if_neg h2] at h
      exact absurd h (by decide)
theorem ynot1 {p q : Int32} (h : xX7_needUnlike p q = 0) : ¬ p = q := by
  intro e
  unfold xX7_needUnlike at h
  rw [if_pos e] at h
  exact absurd h (by decide)
theorem ynop {ni li mi mv nx al nc nl : Int32} (h : xX7_needNoPlay ni li mi mv nx al nc nl = 0) : ¬ ni = 1 := by
  intro e
  unfold xX7_needNoPlay at h
  rw [if_pos e] at h
  exact absurd h (by decide)
theorem yplay {ni li mi mv nx al nc nl : Int32} (h : xX7_needPlay ni li mi mv nx al nc nl = 0) : ni = 1 := by
  apply Classical.byContradiction
  intro e
  unfold xX7_needPlay at h
  rw [if_neg e] at h
  exact absurd h (by decide)
theorem yKn_upd {f : Nat → Int32} {j : Nat} {v : Int32} (h : yKn f) (hj : j < 4) (hv : vp_in v 64) : yKn (upd f j v) := by
  refine ⟨fun k hk => ?_, fun k hk => ?_⟩
  · rw [yupd32]
    split
    · exact hv
    · exact h.1 k hk
  · rw [yupd32, if_neg (by omega)]
    exact h.2 k hk
theorem yHo_upd {f : Nat → Int32} {j : Nat} {v : Int32} (h : yHo f) (hj : j < 4) (hv : v = -1 ∨ vp_in v 6) : yHo (upd f j v) := by
  refine ⟨fun k hk => ?_, fun k hk => ?_⟩
  · rw [yupd32]
    split
    · exact hv
    · exact h.1 k hk
  · rw [yupd32, if_neg (by omega)]
    exact h.2 k hk
theorem y64a : ∀ x, x < 64 → ∀ m, m < 6 → (0 ≤ (Int32.ofNat x ||| ((1 : Int32) <<< (Int32.ofNat m &&& 31))).toInt ∧ (Int32.ofNat x ||| ((1 : Int32) <<< (Int32.ofNat m &&& 31))).toInt < 64) ∧ (0 ≤ (Int32.ofNat x &&& (((1 : Int32) <<< (Int32.ofNat m &&& 31)) ^^^ (-1))).toInt ∧ (Int32.ofNat x &&& (((1 : Int32) <<< (Int32.ofNat m &&& 31)) ^^^ (-1))).toInt < 64) ∧ (0 ≤ (Int32.ofNat x ^^^ ((1 : Int32) <<< (Int32.ofNat m &&& 31))).toInt ∧ (Int32.ofNat x ^^^ ((1 : Int32) <<< (Int32.ofNat m &&& 31))).toInt < 64) := by decide +kernel
theorem y64b : ∀ x, x < 64 → ∀ y, y < 64 → 0 ≤ (Int32.ofNat x &&& (Int32.ofNat y ^^^ (-1))).toInt ∧ (Int32.ofNat x &&& (Int32.ofNat y ^^^ (-1))).toInt < 64 := by decide +kernel
theorem v_or {x m : Int32} (hx : vp_in x 64) (hm : vp_in m 6) : vp_in (x ||| ((1 : Int32) <<< (m &&& 31))) 64 := by
  have h := y64a _ (zin_lt hx) _ (zin_lt hm)
  rw [← yof hx, ← yof hm] at h
  exact vp_in_iff.mpr h.1
theorem v_fg {x m : Int32} (hx : vp_in x 64) (hm : vp_in m 6) : vp_in (x &&& (((1 : Int32) <<< (m &&& 31)) ^^^ (-1))) 64 := by
  have h := y64a _ (zin_lt hx) _ (zin_lt hm)
  rw [← yof hx, ← yof hm] at h
  exact vp_in_iff.mpr h.2.1
theorem v_xor {x m : Int32} (hx : vp_in x 64) (hm : vp_in m 6) : vp_in (x ^^^ ((1 : Int32) <<< (m &&& 31))) 64 := by
  have h := y64a _ (zin_lt hx) _ (zin_lt hm)
  rw [← yof hx, ← yof hm] at h
  exact vp_in_iff.mpr h.2.2
theorem v_out {x y : Int32} (hx : vp_in x 64) (hy : vp_in y 64) : vp_in (x &&& (y ^^^ (-1))) 64 := by
  have h := y64b _ (zin_lt hx) _ (zin_lt hy)
  rw [← yof hx, ← yof hy] at h
  exact vp_in_iff.mpr h
theorem yz (x y : Int32) : x &&& y = 0 ↔ ∀ m, m < 32 → ¬ (yi x m ∧ yi y m) := by
  constructor
  · intro h m _ q
    have q2 := (yi_and x y m).mpr q
    rw [h] at q2
    exact yi_0 m q2
  · intro h
    apply yi_ext
    intro m hm
    rw [yi_and]
    exact ⟨fun q => absurd q (h m hm), fun q => absurd q (yi_0 m)⟩
theorem yNE {ni li mi mv nx al nc nl size d : Int32} {ki fi se th : Nat → Int32} (h1 : ni = 1) (h : ynig ni nx size) (hsz : size.toInt ≤ 12) : ynig (oX7_endMove_ni ni li mi mv nx al nc nl ki fi se th size d) (oX7_endMove_nx ni li mi mv nx al nc nl ki fi se th size d) size := by
  obtain ⟨h0, h2⟩ := h h1
  have hc : ¬ size ≤ nx := by
    rw [Int32.le_iff_toInt_le]
    omega
  have hI := zInc hc
  intro q
  unfold oX7_endMove_ni oX7_passMinutes_ni jX7_endMove_53_0 at q
  unfold oX7_endMove_nx jX7_endMove_53_1
  by_cases d0 : d = 0
  · rw [if_pos d0]
    exact ⟨h0, h2⟩
  · rw [if_neg d0]
    by_cases a : nx + 1 < size
    · have a2 := Int32.lt_iff_toInt_lt.mp a
      exact ⟨by omega, a2⟩
    · rw [if_neg d0, if_neg a, if_neg (show ¬ (2 : Int32) = 1 by decide)] at q
      exact absurd q (by decide)
theorem yk_0_4 {ni li mi mv nx al nc nl : Int32} {kb0 hb0 : Nat → Int32} (p1 p2 p3 p4 : Int32) (hK0 : yKn kb0) : yKn (oL_does_0_kb0 ni li mi mv nx al nc nl kb0 hb0 p1 p2 p3 p4) := by
  unfold oL_does_0_kb0
  split
  · next h =>
    unfold xX7_knows at h
    obtain ⟨a1, h⟩ := yx2 h
    obtain ⟨a2, _⟩ := yx2 h
    have m1 := zM a1
    have m2 := zin_lt (zSc a2)
    unfold oX7_knows_kb0
    split
    · exact yKn_upd hK0 m2 (v_fg (hK0.1 _ m2) m1)
    · exact yKn_upd hK0 m2 (v_or (hK0.1 _ m2) m1)
  · exact hK0
theorem yk_1_6 {ni li mi mv nx al nc nl : Int32} {kb0 hb0 : Nat → Int32} (p1 p2 p3 p4 : Int32) (hH0 : yHo hb0) : yHo (oL_does_1_hb0 ni li mi mv nx al nc nl kb0 hb0 p1 p2 p3 p4) := by
  unfold oL_does_1_hb0
  split
  · next h =>
    unfold xX7_has at h
    obtain ⟨a1, h⟩ := yx2 h
    have m1 := zin_lt (zPr a1)
    refine yHo_upd hH0 m1 ?_
    by_cases q : p2 = -1
    · exact Or.inl q
    · rw [if_neg q] at h
      exact Or.inr (zM (yx2 h).1)
  · exact hH0
theorem yk_2_0 {ni li mi mv nx al nc nl size : Int32} {ki fi se th : Nat → Int32} (p1 p2 p3 p4 : Int32) (hC : ycan size ki fi se th) : ycan (oL_does_2_size ni li mi mv nx al nc nl ki fi se th size p1 p2 p3 p4) (oL_does_2_ki ni li mi mv nx al nc nl ki fi se th size p1 p2 p3 p4) (oL_does_2_fi ni li mi mv nx al nc nl ki fi se th size p1 p2 p3 p4) (oL_does_2_se ni li mi mv nx al nc nl ki fi se th size p1 p2 p3 p4) (oL_does_2_th ni li mi mv nx al nc nl ki fi se th size p1 p2 p3 p4) := by
  unfold oL_does_2_size oL_does_2_ki oL_does_2_fi oL_does_2_se oL_does_2_th
  by_cases h : xX7_step ni li mi mv nx al nc nl ki fi se th size p1 p2 p3 p4 = 0
  · rw [if_pos h, if_pos h, if_pos h, if_pos h, if_pos h]
    unfold xX7_step at h
    obtain ⟨a1, h⟩ := yx2 h
    obtain ⟨a2, h⟩ := yx2 h
    obtain ⟨a3, h⟩ := yx2 h
    obtain ⟨a4, h⟩ := yx2 h
    obtain ⟨a5, h⟩ := yx2 h
    obtain ⟨a6, h⟩ := yx2 h
    have hs : ¬ (12 : Int32) ≤ size := by
      intro q
      have e : ¬ size < 12 := by
        rw [Int32.le_iff_toInt_le] at q
        rw [Int32.lt_iff_toInt_lt]
        omega
      rw [if_neg e] at h
      exact absurd h (by decide)
    have e12 : (12 : Int32).toInt = 12 := rfl
    have e0 : (0 : Int32).toInt = 0 := rfl
    have e4 : (4 : Int32).toInt = 4 := rfl
    have hI := zInc hs
    have hlt : size.toInt < 12 := by
      rw [Int32.le_iff_toInt_le] at hs
      omega
    have hk := yrng a4
    obtain ⟨c0, c1, c2, c3, c4, c5, c6⟩ := hC
    have en : ((size.toNatClampNeg : Nat) : Int) = size.toInt := by
      have e : size.toNatClampNeg = size.toInt.toNat := rfl
      omega
    unfold oX7_step_size oX7_step_ki oX7_step_fi oX7_step_se oX7_step_th oX0_add_size oX0_add_ki oX0_add_fi oX0_add_se oX0_add_th
    rw [if_neg hs, if_neg hs, if_neg hs, if_neg hs, if_neg hs]
    refine ⟨by omega, by omega, fun j hj => ?_, fun j hj => ?_, fun j hj => ?_, fun j hj => ?_, fun j hj => ?_⟩
    · rw [yupd32]
      split
      · exact vp_in_iff.mpr ⟨by omega, by omega⟩
      · exact c2 j hj
    · rw [yupd32]
      split
      · exact zM a1
      · exact c3 j hj
    · rw [yupd32]
      split
      · exact zM a2
      · exact c4 j hj
    · rw [yupd32]
      split
      · exact zSc a3
      · exact c5 j hj
    · rw [yupd32, yupd32]
      by_cases q : j = size.toNatClampNeg
      · rw [if_pos q, if_pos q]
        exact ynot1 a5
      · rw [if_neg q, if_neg q]
        exact c6 j (by omega)
  · rw [if_neg h, if_neg h, if_neg h, if_neg h, if_neg h]
    exact hC
theorem yk_2_2 {ni li mi mv nx al nc nl size : Int32} {ki fi se th : Nat → Int32} (p1 p2 p3 p4 : Int32) (hN : ynig ni nx size) : ynig ni nx (oL_does_2_size ni li mi mv nx al nc nl ki fi se th size p1 p2 p3 p4) := by
  unfold oL_does_2_size
  split
  · next h =>
    unfold xX7_step at h
    obtain ⟨a1, h⟩ := yx2 h
    obtain ⟨a2, h⟩ := yx2 h
    obtain ⟨a3, h⟩ := yx2 h
    obtain ⟨a4, h⟩ := yx2 h
    obtain ⟨a5, h⟩ := yx2 h
    obtain ⟨a6, h⟩ := yx2 h
    exact fun q => absurd q (ynop a6)
  · exact hN
theorem yk_3_0 {ni li mi mv nx al nc nl size : Int32} {ki fi se th : Nat → Int32} (p1 p2 p3 p4 : Int32) (hC : ycan size ki fi se th) : ycan (oL_does_3_size ni li mi mv nx al nc nl ki fi se th size p1 p2 p3 p4) ki fi se th := by
  unfold oL_does_3_size
  split
  · obtain ⟨c0, c1, c2, c3, c4, c5, c6⟩ := hC
    unfold oX7_tear_size
    have e0 : (0 : Int32).toInt = 0 := rfl
    refine ⟨by decide, by decide, c2, c3, c4, c5, fun j hj => ?_⟩
    omega
  · exact hC
theorem yk_3_2 {ni li mi mv nx al nc nl size : Int32} {ki fi se th : Nat → Int32} (p1 p2 p3 p4 : Int32) (hN : ynig ni nx size) : ynig ni nx (oL_does_3_size ni li mi mv nx al nc nl ki fi se th size p1 p2 p3 p4) := by
  unfold oL_does_3_size
  split
  · next h =>
    unfold xX7_tear at h
    exact fun q => absurd q (ynop (yx2 h).1)
  · exact hN
theorem yk_4_3 {ni li mi mv nx al nc nl on il ba : Int32} (p1 p2 p3 p4 : Int32) (hS : ystg on il) : ystg (oL_does_4_on ni li mi mv nx al nc nl on il ba p1 p2 p3 p4) (oL_does_4_il ni li mi mv nx al nc nl on il ba p1 p2 p3 p4) := by
  unfold oL_does_4_on oL_does_4_il
  by_cases h : xX7_ill ni li mi mv nx al nc nl on il ba p1 = 0
  · rw [if_pos h, if_pos h]
    unfold xX7_ill at h
    have m1 := zM (yx2 h).1
    obtain ⟨s1, s2, s3⟩ := hS
    have x := v_xor s2 m1
    refine ⟨v_out s1 x, x, ?_⟩
    refine (yz _ _).mpr (fun m hm q => ?_)
    have q1 := (yi_and _ _ _).mp q.1
    exact (yi_not _ hm).mp q1.2 q.2
  · rw [if_neg h, if_neg h]
    exact hS
theorem yk_7_1 {ni li mi mv nx al nc nl gs : Int32} {le wi pr tp : Nat → Int32} (p1 p2 p3 p4 : Int32) (hG : ygag gs wi pr) : ygag (oL_does_7_gs ni li mi mv nx al nc nl le wi pr tp gs p1 p2 p3 p4) (oL_does_7_wi ni li mi mv nx al nc nl le wi pr tp gs p1 p2 p3 p4) (oL_does_7_pr ni li mi mv nx al nc nl le wi pr tp gs p1 p2 p3 p4) := by
  unfold oL_does_7_gs oL_does_7_wi oL_does_7_pr
  by_cases h : xX7_gag ni li mi mv nx al nc nl le wi pr tp gs p1 p2 p3 = 0
  · rw [if_pos h, if_pos h, if_pos h]
    unfold xX7_gag at h
    have hp : (p3 = -1 ∨ vp_in p3 4) ∧ qX7_gag_9_x ni li mi mv nx al nc nl le wi pr tp gs p1 p2 p3 = 0 := by
      by_cases q : p3 = -1
      · rw [if_pos q] at h
        exact ⟨Or.inl q, h⟩
      · rw [if_neg q] at h
        obtain ⟨a, b⟩ := yx2 h
        exact ⟨Or.inr (zPr a), b⟩
    obtain ⟨hp, h⟩ := hp
    unfold qX7_gag_9_x at h
    obtain ⟨a1, h⟩ := yx2 h
    obtain ⟨a2, h⟩ := yx2 h
    have hs : gs < 6 := by
      apply Classical.byContradiction
      intro q
      rw [if_neg q] at h
      exact absurd h (by decide)
    have hk := yrng a2
    have e0 : (0 : Int32).toInt = 0 := rfl
    have e6 : (6 : Int32).toInt = 6 := rfl
    have e1000 : (1000 : Int32).toInt = 1000 := rfl
    have hs2 := Int32.lt_iff_toInt_lt.mp hs
    have hs3 : ¬ (6 : Int32) ≤ gs := by
      rw [Int32.le_iff_toInt_le]
      omega
    have hI := zInc hs3
    obtain ⟨c0, c1, c2, c3⟩ := hG
    unfold oX7_gag_gs oX7_gag_wi oX7_gag_pr qX7_gag_9_gs qX7_gag_9_wi qX7_gag_9_pr oX1_add_gs oX1_add_wi oX1_add_pr
    rw [if_pos hs, if_pos hs, if_pos hs]
    refine ⟨by omega, by omega, fun j hj => ?_, fun j hj => ?_⟩
    · rw [yupd32]
      split
      · exact vp_in_iff.mpr ⟨by omega, by omega⟩
      · exact c2 j hj
    · rw [yupd32]
      split
      · exact hp
      · exact c3 j hj
  · rw [if_neg h, if_neg h, if_neg h]
    exact hG
theorem yb9 (ni li mi mv nx al nc nl : Int32) (ki fi se th : Nat → Int32) (size on il ba : Int32) (kn ho kb0 hb0 : Nat → Int32) (p1 : Int32) : xL_begun ni li mi mv nx al nc nl ki fi se th size on il ba kn ho kb0 hb0 p1 = xX7_night ni li mi mv nx al nc nl ki fi se th size on il ba kn ho kb0 hb0 p1 := by
  unfold xL_begun
  by_cases h : xX7_night ni li mi mv nx al nc nl ki fi se th size on il ba kn ho kb0 hb0 p1 = 0
  · rw [if_pos h, h]
  · rw [if_neg h]
theorem yk_9_2 {ni li mi mv nx al nc nl on il ba size : Int32} {ki fi se th kn ho kb0 hb0 : Nat → Int32} (p1 p2 p3 p4 : Int32) (hC : ycan size ki fi se th) (hN : ynig ni nx size) : ynig (oL_does_9_ni ni li mi mv nx al nc nl ki fi se th size on il ba kn ho kb0 hb0 p1 p2 p3 p4) (oL_does_9_nx ni li mi mv nx al nc nl ki fi se th size on il ba kn ho kb0 hb0 p1 p2 p3 p4) size := by
  unfold oL_does_9_ni oL_does_9_nx
  rw [yb9]
  unfold oL_begun_ni oL_begun_nx
  by_cases h : xX7_night ni li mi mv nx al nc nl ki fi se th size on il ba kn ho kb0 hb0 p1 = 0
  · rw [if_pos h, if_pos h]
    unfold xX7_night at h
    obtain ⟨a1, h⟩ := yx2 h
    obtain ⟨a2, h⟩ := yx2 h
    intro _
    have e0 : (0 : Int32).toInt = 0 := rfl
    have hz : ¬ size = 0 := by
      intro q
      rw [if_pos q] at h
      exact absurd h (by decide)
    have hz2 : size.toInt ≠ 0 := fun q => hz (Int32.toInt_inj.mp (q.trans e0.symm))
    have h0 := hC.1
    have e : (oX7_night_nx ni li mi mv nx al nc nl ki fi se th size on il ba kn ho kb0 hb0 p1).toInt = 0 := rfl
    omega
  · rw [if_neg h, if_neg h]
    exact hN
theorem yk_9_3 {ni li mi mv nx al nc nl on il ba size : Int32} {ki fi se th kn ho kb0 hb0 : Nat → Int32} (p1 p2 p3 p4 : Int32) (hS : ystg on il) : ystg (oL_does_9_on ni li mi mv nx al nc nl ki fi se th size on il ba kn ho kb0 hb0 p1 p2 p3 p4) il := by
  unfold oL_does_9_on
  rw [yb9]
  unfold oL_begun_on
  split
  · unfold oX7_night_on
    refine ⟨vp_in_iff.mpr ⟨by decide, by decide⟩, hS.2.1, ?_⟩
    exact (yz _ _).mpr (fun m _ q => yi_0 m q.1)
  · exact hS
theorem yk_9_5 {ni li mi mv nx al nc nl on il ba size : Int32} {ki fi se th kn ho kb0 hb0 : Nat → Int32} (p1 p2 p3 p4 : Int32) (hK0 : yKn kb0) (hK : yKn kn) : yKn (oL_does_9_kn ni li mi mv nx al nc nl ki fi se th size on il ba kn ho kb0 hb0 p1 p2 p3 p4) := by
  unfold oL_does_9_kn
  rw [yb9]
  unfold oL_begun_kn
  split
  · unfold oX7_night_kn oX2_copyFrom_fk
    rw [y0c, y4c]
    refine ⟨fun j hj => ?_, fun j hj => ?_⟩
    · rw [ycp4 _ _ hj]
      exact hK0.1 j hj
    · show (if 0 ≤ j ∧ j < 0 + 4 then kb0 (0 + (j - 0)) else kn j) = 0
      rw [if_neg (by omega)]
      exact hK.2 j hj
  · exact hK
theorem yk_9_7 {ni li mi mv nx al nc nl on il ba size : Int32} {ki fi se th kn ho kb0 hb0 : Nat → Int32} (p1 p2 p3 p4 : Int32) (hH0 : yHo hb0) (hH : yHo ho) : yHo (oL_does_9_ho ni li mi mv nx al nc nl ki fi se th size on il ba kn ho kb0 hb0 p1 p2 p3 p4) := by
  unfold oL_does_9_ho
  rw [yb9]
  unfold oL_begun_ho
  split
  · unfold oX7_night_ho oX2_copyFrom_fh
    rw [y0c, y4c]
    refine ⟨fun j hj => ?_, fun j hj => ?_⟩
    · rw [ycp4 _ _ hj]
      exact hH0.1 j hj
    · show (if 0 ≤ j ∧ j < 0 + 4 then hb0 (0 + (j - 0)) else ho j) = 0
      rw [if_neg (by omega)]
      exact hH.2 j hj
  · exact hH
theorem yk_10_2 {ni li mi mv nx al nc nl on il ba size : Int32} {ki fi se th : Nat → Int32} (p1 p2 p3 p4 : Int32) (hC : ycan size ki fi se th) (hN : ynig ni nx size) : ynig (oL_does_10_ni ni li mi mv nx al nc nl ki fi se th size on il ba p1 p2 p3 p4) (oL_does_10_nx ni li mi mv nx al nc nl ki fi se th size on il ba p1 p2 p3 p4) size := by
  unfold oL_does_10_ni oL_does_10_nx
  by_cases h : xX7_enter ni li mi mv nx al nc nl ki fi se th size on il ba p1 = 0
  · rw [if_pos h, if_pos h]
    unfold xX7_enter at h
    have h := (yx2 h).2
    exact yNE (yplay (yx2 h).1) hN hC.2.1
  · rw [if_neg h, if_neg h]
    exact hN
theorem yk_11_2 {ni li mi mv nx al nc nl on il ba size : Int32} {ki fi se th : Nat → Int32} (p1 p2 p3 p4 : Int32) (hC : ycan size ki fi se th) (hN : ynig ni nx size) : ynig (oL_does_11_ni ni li mi mv nx al nc nl ki fi se th size on il ba p1 p2 p3 p4) (oL_does_11_nx ni li mi mv nx al nc nl ki fi se th size on il ba p1 p2 p3 p4) size := by
  unfold oL_does_11_ni oL_does_11_nx
  by_cases h : xX7_exit ni li mi mv nx al nc nl ki fi se th size on il ba p1 = 0
  · rw [if_pos h, if_pos h]
    unfold xX7_exit at h
    have h := (yx2 h).2
    exact yNE (yplay (yx2 h).1) hN hC.2.1
  · rw [if_neg h, if_neg h]
    exact hN
theorem yk_13_2 {ni li mi mv nx al nc nl on il ba size : Int32} {ki fi se th kn ho : Nat → Int32} (p1 p2 p3 p4 : Int32) (hC : ycan size ki fi se th) (hN : ynig ni nx size) : ynig (oL_does_13_ni ni li mi mv nx al nc nl ki fi se th size on il ba kn ho p1 p2 p3 p4) (oL_does_13_nx ni li mi mv nx al nc nl ki fi se th size on il ba kn ho p1 p2 p3 p4) size := by
  unfold oL_does_13_ni oL_does_13_nx
  by_cases h : xX7_give ni li mi mv nx al nc nl ki fi se th size on il ba kn ho p1 p2 p3 = 0
  · rw [if_pos h, if_pos h]
    unfold xX7_give at h
    have h := (yx2 h).2
    have h := (yx2 h).2
    have h := (yx2 h).2
    have h := (yx2 h).2
    exact yNE (yplay (yx2 h).1) hN hC.2.1
  · rw [if_neg h, if_neg h]
    exact hN
theorem yk_14_2 {ni li mi mv nx al nc nl on il ba size : Int32} {ki fi se th kn ho : Nat → Int32} (p1 p2 p3 p4 : Int32) (hC : ycan size ki fi se th) (hN : ynig ni nx size) : ynig (oL_does_14_ni ni li mi mv nx al nc nl ki fi se th size on il ba kn ho p1 p2 p3 p4) (oL_does_14_nx ni li mi mv nx al nc nl ki fi se th size on il ba kn ho p1 p2 p3 p4) size := by
  unfold oL_does_14_ni oL_does_14_nx
  by_cases h : xX7_take ni li mi mv nx al nc nl ki fi se th size on il ba kn ho p1 p2 = 0
  · rw [if_pos h, if_pos h]
    unfold xX7_take at h
    have h := (yx2 h).2
    have h := (yx2 h).2
    exact yNE (yplay (yx2 h).1) hN hC.2.1
  · rw [if_neg h, if_neg h]
    exact hN
theorem yk_15_2 {ni li mi mv nx al nc nl on il ba size : Int32} {ki fi se th : Nat → Int32} (p1 p2 p3 p4 : Int32) (hC : ycan size ki fi se th) (hN : ynig ni nx size) : ynig (oL_does_15_ni ni li mi mv nx al nc nl ki fi se th size on il ba p1 p2 p3 p4) (oL_does_15_nx ni li mi mv nx al nc nl ki fi se th size on il ba p1 p2 p3 p4) size := by
  unfold oL_does_15_ni oL_does_15_nx
  by_cases h : xX7_greet ni li mi mv nx al nc nl ki fi se th size on il ba p1 p2 = 0
  · rw [if_pos h, if_pos h]
    unfold xX7_greet at h
    have h := (yx2 h).2
    have h := (yx2 h).2
    have h := (yx2 h).2
    exact yNE (yplay (yx2 h).1) hN hC.2.1
  · rw [if_neg h, if_neg h]
    exact hN
theorem yk_10_3 {ni li mi mv nx al nc nl on il ba size : Int32} {ki fi se th : Nat → Int32} (p1 p2 p3 p4 : Int32) (hS : ystg on il) : ystg (oL_does_10_on ni li mi mv nx al nc nl ki fi se th size on il ba p1 p2 p3 p4) il := by
  unfold oL_does_10_on
  split
  · next h =>
    unfold xX7_enter at h
    obtain ⟨a1, h⟩ := yx2 h
    obtain ⟨a2, h⟩ := yx2 h
    have m1 := zM a1
    have a3 : rX7_isIn (il ||| on) p1 = 0 := by
      apply Classical.byContradiction
      intro q
      rw [if_neg q] at h
      exact absurd h (by decide)
    have a4 := (yi_is0 m1).mp a3
    rw [yi_or] at a4
    obtain ⟨s1, s2, s3⟩ := hS
    refine ⟨v_or s1 m1, s2, (yz _ _).mpr (fun m hm q => ?_)⟩
    rcases (yi_or _ _ _).mp q.1 with q1 | q1
    · exact (yz _ _).mp s3 m hm ⟨q1, q.2⟩
    · rw [yi_one3 m1 hm] at q1
      exact a4 (Or.inl (q1 ▸ q.2))
  · exact hS
theorem yk_11_3 {ni li mi mv nx al nc nl on il ba size : Int32} {ki fi se th : Nat → Int32} (p1 p2 p3 p4 : Int32) (hS : ystg on il) : ystg (oL_does_11_on ni li mi mv nx al nc nl ki fi se th size on il ba p1 p2 p3 p4) il := by
  unfold oL_does_11_on
  split
  · next h =>
    unfold xX7_exit at h
    have m1 := zM (yx2 h).1
    obtain ⟨s1, s2, s3⟩ := hS
    refine ⟨v_fg s1 m1, s2, (yz _ _).mpr (fun m hm q => ?_)⟩
    exact (yz _ _).mp s3 m hm ⟨((yi_and _ _ _).mp q.1).1, q.2⟩
  · exact hS
theorem yk_13_7 {ni li mi mv nx al nc nl on il ba size : Int32} {ki fi se th kn ho : Nat → Int32} (p1 p2 p3 p4 : Int32) (hH : yHo ho) : yHo (oL_does_13_ho ni li mi mv nx al nc nl ki fi se th size on il ba kn ho p1 p2 p3 p4) := by
  unfold oL_does_13_ho
  split
  · next h =>
    unfold xX7_give at h
    obtain ⟨a1, h⟩ := yx2 h
    obtain ⟨a2, h⟩ := yx2 h
    obtain ⟨a3, h⟩ := yx2 h
    exact yHo_upd hH (zin_lt (zPr a3)) (Or.inr (zM a2))
  · exact hH
theorem yk_14_7 {ni li mi mv nx al nc nl on il ba size : Int32} {ki fi se th kn ho : Nat → Int32} (p1 p2 p3 p4 : Int32) (hH : yHo ho) : yHo (oL_does_14_ho ni li mi mv nx al nc nl ki fi se th size on il ba kn ho p1 p2 p3 p4) := by
  unfold oL_does_14_ho
  split
  · next h =>
    unfold xX7_take at h
    obtain ⟨a1, h⟩ := yx2 h
    obtain ⟨a2, h⟩ := yx2 h
    exact yHo_upd hH (zin_lt (zPr a2)) (Or.inr (zM a1))
  · exact hH
theorem yk_16_2 {ni li mi mv nx al nc nl on il ba size gs : Int32} {kn ho le wi pr tp : Nat → Int32} (p1 p2 p3 p4 : Int32) (hN : ynig ni nx size) : ynig (oL_does_16_ni ni li mi mv nx al nc nl le wi pr tp gs on il ba kn ho p1 p2 p3 p4) nx size := by
  unfold oL_does_16_ni
  split
  · intro q
    unfold oX7_play_ni oX7_passMinutes_ni at q
    by_cases h1 : ni = 1
    · exact hN h1
    · rw [if_neg h1] at q
      exact absurd q h1
  · exact hN
