/-! what the class holds, and what the law holds of it -/
def zJc (ki fi se th vc : Nat → Int32) : Prop := ∀ j : Nat, j < 12 → vc j = zcd (ki j) (fi j) (se j) (th j)
def zge (l w p : Int32) : Int32 := ((l + ((32 : Int32) * w)) + ((32768 : Int32) * (p + (1 : Int32))))
def zJe (gs : Int32) (le wi pr ve : Nat → Int32) : Prop := ∀ j : Nat, (j : Int) < gs.toInt → vp_in (le j) 21 ∧ ve j = zge (le j) (wi j) (pr j)
def zJt (N : Nat) (tp ve : Nat → Int32) : Prop := ∀ j : Nat, j < 6 → ve (6 + j) = tp j ∧ 0 ≤ (tp j).toInt ∧ (tp j).toInt ≤ N
def zJp (pt vq : Nat → Int32) : Prop := ∀ j : Nat, j < 6 → vq j = pt j
def zJg (vg : Nat → Int32) (ni li mi mv nx al nc nl on il ba size gs : Int32) : Prop := vg 0 = size ∧ vg 1 = il ∧ vg 2 = ba ∧ vg 3 = gs ∧ vg 4 = ni ∧ vg 5 = li ∧ vg 6 = mi ∧ vg 7 = nx ∧ vg 8 = mv ∧ vg 9 = on ∧ vg 10 = al ∧ vg 11 = nc ∧ vg 12 = nl
def zRc (N : Nat) (ni li mi mv nx al nc nl on il ba size : Int32) (ki fi se th kT hT kn ho kb0 hb0 : Nat → Int32) (gs : Int32) (le wi pr tp pt : Nat → Int32) (fr fb : Nat → Int64) (vk vh vc ve vq vg : Nat → Int32) : Prop :=
  (ycan size ki fi se th ∧ ygag gs wi pr ∧ ynig ni nx size ∧ ystg on il ∧ yKn kb0 ∧ yKn kn ∧ yHo hb0 ∧ yHo ho) ∧ (zJk vk kb0 ∧ zJk (fun j => vk (24 + j)) (if ni = 0 then kb0 else kn)) ∧ (zJh vh hb0 ∧ zJh (fun j => vh (4 + j)) (if ni = 0 then hb0 else ho)) ∧ zJc ki fi se th vc ∧ (zJe gs le wi pr ve ∧ zJt N tp ve) ∧ zJp pt vq ∧ zJg vg ni li mi mv nx al nc nl on il ba size gs
theorem zJk_t {t k : Nat → Int32} (h : zJk t k) {i : Nat} (hi : 24 ≤ i) (v : Int32) : zJk (upd t i v) k := by
  intro m s hm hs
  rw [zuN _ _ (by omega)]
  exact h m s hm hs
theorem zJk_t2 {t k : Nat → Int32} (h : zJk (fun j => t (24 + j)) k) {i : Nat} (hi : i < 24 ∨ 48 ≤ i) (v : Int32) : zJk (fun j => upd t i v (24 + j)) k := by
  intro m s hm hs
  show zB (upd t i v (24 + (4 * m + s))) (yi (k s) m)
  rw [zuN _ _ (by omega)]
  exact h m s hm hs
theorem zsk (t : Nat → Int32) (p : Nat) (v : Int32) : (fun j => upd t (24 + p) v (24 + j)) = upd (fun j => t (24 + j)) p v := by
  funext j
  rw [yupd32, yupd32]
  by_cases q : j = p
  · rw [if_pos q, if_pos (by omega)]
  · rw [if_neg q, if_neg (by omega)]
theorem zJh_t {t k : Nat → Int32} (h : zJh t k) {i : Nat} (hi : 4 ≤ i) (v : Int32) : zJh (upd t i v) k := by
  intro s hs
  rw [zuN _ _ (by omega)]
  exact h s hs
theorem zJh_t2 {t k : Nat → Int32} (h : zJh (fun j => t (4 + j)) k) {i : Nat} (hi : i < 4 ∨ 8 ≤ i) (v : Int32) : zJh (fun j => upd t i v (4 + j)) k := by
  intro s hs
  show upd t i v (4 + s) = k s + 1
  rw [zuN _ _ (by omega)]
  exact h s hs
theorem zsh (t : Nat → Int32) (p : Nat) (v : Int32) : (fun j => upd t (4 + p) v (4 + j)) = upd (fun j => t (4 + j)) p v := by
  funext j
  rw [yupd32, yupd32]
  by_cases q : j = p
  · rw [if_pos q, if_pos (by omega)]
  · rw [if_neg q, if_neg (by omega)]
theorem zJt_le {N M : Nat} {tp ve : Nat → Int32} (h : zJt N tp ve) (hM : N ≤ M) : zJt M tp ve := fun j hj => ⟨(h j hj).1, (h j hj).2.1, by have h2 := (h j hj).2.2; omega⟩
theorem znle {m c : Int32} {n : Nat} (h : vp_in m n) (hc : c.toInt = n) : ¬ c ≤ m := by
  rw [Int32.le_iff_toInt_le]
  have h1 := vp_in_iff.mp h
  omega
theorem zvne {m c : Int32} {n : Nat} (h : vp_in m n) (hc : c.toInt = n) : ¬ m = c := by
  intro q
  have h1 := vp_in_iff.mp h
  rw [q] at h1
  omega
theorem znin {c : Int32} {n : Nat} (hc : c.toInt = n) : ¬ vp_in c n := by
  intro q
  have h1 := vp_in_iff.mp q
  omega
theorem zpk (p A B C D : Int32) (n : Nat) (hD : D.toInt = n) (hn : 0 < n) (hp : 0 ≤ p.toInt) : (if zRem p A = B then C else zRem p D) = C ∨ vp_in (if zRem p A = B then C else zRem p D) n := by
  by_cases q : zRem p A = B
  · rw [if_pos q]
    exact Or.inl rfl
  · rw [if_neg q]
    have e := zrK (a := p) (n := (n : Int)) hD hp (by omega)
    have h1 := Int.emod_nonneg p.toInt (show (n : Int) ≠ 0 by omega)
    have h2 := Int.emod_lt_of_pos p.toInt (show (0 : Int) < n by omega)
    exact Or.inr (zin_b (by omega) (by omega))
theorem zrI (p D : Int32) (n : Nat) (hD : D.toInt = n) (hn : 0 < n) (hp : 0 ≤ p.toInt) : vp_in (zRem p D) n := by
  have e := zrK (a := p) (n := (n : Int)) hD hp (by omega)
  have h1 := Int.emod_nonneg p.toInt (show (n : Int) ≠ 0 by omega)
  have h2 := Int.emod_lt_of_pos p.toInt (show (0 : Int) < n by omega)
  exact zin_b (by omega) (by omega)
theorem zdv0 {p D : Int32} {n : Int} (hD : D.toInt = n) (hn : 0 < n) (hp : 0 ≤ p.toInt) : 0 ≤ (p / D).toInt := by
  rw [zdK hD hp hn]
  exact Int.ediv_nonneg hp (by omega)
theorem zM6 : xX7_needMask 6 = 1 := by decide
theorem zS4 : xX7_needSecret 4 = 1 := by decide
theorem zP4 : xX7_needProp 4 = 1 := by decide
theorem zRg {p a b : Int32} (h1 : a.toInt ≤ p.toInt) (h2 : p.toInt ≤ b.toInt) : xX7_needRange p a b = 0 := by
  unfold xX7_needRange
  rw [if_neg (by rw [Int32.lt_iff_toInt_lt]; omega), if_pos (by rw [Int32.le_iff_toInt_le]; exact h2)]
theorem zRg2 {p a b : Int32} (h : ¬ (a.toInt ≤ p.toInt ∧ p.toInt ≤ b.toInt)) : xX7_needRange p a b = 2 := by
  unfold xX7_needRange
  by_cases q : p < a
  · rw [if_pos q]
  · rw [if_neg q, if_neg (by rw [Int32.le_iff_toInt_le]; rw [Int32.lt_iff_toInt_lt] at q; omega)]
theorem zNP0 {ni li mi mv nx al nc nl : Int32} (h : ¬ ni = 1) : xX7_needNoPlay ni li mi mv nx al nc nl = 0 := by
  unfold xX7_needNoPlay
  rw [if_neg h]
theorem zNP3 {ni li mi mv nx al nc nl : Int32} (h : ni = 1) : xX7_needNoPlay ni li mi mv nx al nc nl = 3 := by
  unfold xX7_needNoPlay
  rw [if_pos h]
theorem zPL0 {ni li mi mv nx al nc nl : Int32} (h : ni = 1) : xX7_needPlay ni li mi mv nx al nc nl = 0 := by
  unfold xX7_needPlay
  rw [if_pos h]
theorem zPL3 {ni li mi mv nx al nc nl : Int32} (h : ¬ ni = 1) : xX7_needPlay ni li mi mv nx al nc nl = 3 := by
  unfold xX7_needPlay
  rw [if_neg h]
theorem zUn0 {a b : Int32} (h : ¬ a = b) : xX7_needUnlike a b = 0 := by
  unfold xX7_needUnlike
  rw [if_neg h]
theorem zUn2 {a b : Int32} (h : a = b) : xX7_needUnlike a b = 2 := by
  unfold xX7_needUnlike
  rw [if_pos h]
theorem zOn0 {ni li mi mv nx al nc nl on il ba a : Int32} (h : ¬ rX7_isIn on a = 0) : xX7_needOn ni li mi mv nx al nc nl on il ba a = 0 := by
  unfold xX7_needOn
  rw [if_neg h]
theorem zOn3 {ni li mi mv nx al nc nl on il ba a : Int32} (h : rX7_isIn on a = 0) : xX7_needOn ni li mi mv nx al nc nl on il ba a = 3 := by
  unfold xX7_needOn
  rw [if_pos h]
theorem z10 : ¬ (1 : Int32) = 0 := by decide
theorem z1n : ¬ (1 : Nat) = 0 := by decide
theorem z2n : ¬ (2 : Nat) = 0 := by decide
theorem z3n : ¬ (3 : Nat) = 0 := by decide
theorem z21n : ¬ (2 : Nat) = 1 := by decide
theorem z31n : ¬ (3 : Nat) = 1 := by decide
theorem z32n : ¬ (3 : Nat) = 2 := by decide
theorem zis1 (x k : Int32) : rX7_isIn x k = 0 ∨ rX7_isIn x k = 1 := brX7_isIn x k
/-- a move that counts: the law's minutes and the class's -/
theorem zMV {vg : Nat → Int32} {ni li mi mv nx al nc nl on il ba size gs : Int32} (ki fi se th : Nat → Int32) (hg : zJg vg ni li mi mv nx al nc nl on il ba size gs) (h1 : ni = 1) (h0 : 0 ≤ nx.toInt) (hlt : nx.toInt < size.toInt) (hs : size.toInt ≤ 12) {d : Int32} (hd : d = 0 ∨ d = 1) :
    zJg (oL_moves_vg vg d) (oX7_endMove_ni ni li mi mv nx al nc nl ki fi se th size d) li (oX7_endMove_mi ni li mi mv nx al nc nl ki fi se th size d) (oX7_endMove_mv ni li mi mv nx al nc nl ki fi se th size d) (oX7_endMove_nx ni li mi mv nx al nc nl ki fi se th size d) al (oX7_endMove_nc ni li mi mv nx al nc nl ki fi se th size d) (oX7_endMove_nl ni li mi mv nx al nc nl ki fi se th size d) on il ba size gs ∧ rL_moves vg d = rX7_endMove ni li mi mv nx al nc nl ki fi se th size d := by
  subst h1
  obtain ⟨g0, g1, g2, g3, g4, g5, g6, g7, g8, g9, g10, g11, g12⟩ := hg
  have e1 : (nx + 1).toInt = nx.toInt + 1 := zInc (y := size) (by rw [Int32.le_iff_toInt_le]; omega)
  have n0 : ¬ nx = size := fun q => by rw [q] at hlt; omega
  have n1 : nx + 1 = size ↔ ¬ nx + 1 < size := by
    rw [Int32.lt_iff_toInt_lt]
    constructor
    · intro q
      rw [q]
      omega
    · intro q
      exact Int32.toInt_inj.mp (by omega)
  refine ⟨?_, ?_⟩
  · unfold zJg oL_moves_vg oL_passes_vg jL_passes_74_0 jL_passes_58_0 jL_passes_43_0 jL_passes_23_0 jL_moves_14_0 oX7_endMove_ni oX7_endMove_mi oX7_endMove_mv oX7_endMove_nx oX7_endMove_nc oX7_endMove_nl oX7_passMinutes_ni oX7_passMinutes_mi oX7_passMinutes_nl jX7_endMove_53_0 jX7_endMove_53_1 jX7_endMove_53_2
    rcases hd with rfl | rfl
    · by_cases l : mi + 1 < li
      · simp [yupd32, zN0, zN4, zN5, zN6, zN7, zN8, zN11, zN12, g0, g1, g2, g3, g4, g5, g6, g7, g8, g9, g10, g11, g12, n0, l]
      · simp [yupd32, zN0, zN4, zN5, zN6, zN7, zN8, zN11, zN12, g0, g1, g2, g3, g4, g5, g6, g7, g8, g9, g10, g11, g12, n0, l]
    · by_cases a : nx + 1 < size
      · have b : ¬ nx + 1 = size := fun q => (n1.mp q) a
        by_cases l : mi + 1 < li
        · simp [yupd32, zN0, zN4, zN5, zN6, zN7, zN8, zN11, zN12, g0, g1, g2, g3, g4, g5, g6, g7, g8, g9, g10, g11, g12, a, b, l]
        · simp [yupd32, zN0, zN4, zN5, zN6, zN7, zN8, zN11, zN12, g0, g1, g2, g3, g4, g5, g6, g7, g8, g9, g10, g11, g12, a, b, l]
      · have b : nx + 1 = size := n1.mpr a
        have b2 : ¬ size < size := fun q => by rw [Int32.lt_iff_toInt_lt] at q; omega
        simp [yupd32, zN0, zN4, zN5, zN6, zN7, zN8, zN11, zN12, g0, g1, g2, g3, g4, g5, g6, g7, g8, g9, g10, g11, g12, b, b2]
  · unfold rL_moves rX7_endMove
    rfl
/-- the arguments of a move -/
def zPL (vg : Nat → Int32) : Int32 := if (vg ((4 : Int32)).toNatClampNeg) = (1 : Int32) then (1 : Int32) else (0 : Int32)
def zNE (vg : Nat → Int32) (p2 : Int32) : Int32 := if zPL vg = 0 then (0 : Int32) else (if (zRem p2 (4 : Int32)) ≤ 0 then (0 : Int32) else (1 : Int32))
def zST (vg vc : Nat → Int32) : Int32 := if zPL vg = 0 then (5 : Int32) else (vc ((vg ((7 : Int32)).toNatClampNeg)).toNatClampNeg)
def zAa (vg vc : Nat → Int32) (p1 p2 : Int32) : Int32 := if zNE vg p2 = 0 then (if (zRem p1 (13 : Int32)) = (12 : Int32) then (6 : Int32) else (zRem p1 (6 : Int32))) else (zRem (zST vg vc / (8 : Int32)) (8 : Int32))
def zBb (vg vc : Nat → Int32) (p1 p2 : Int32) : Int32 := if zNE vg p2 = 0 then (zRem (p1 / (13 : Int32)) (6 : Int32)) else (zRem (zST vg vc / (64 : Int32)) (8 : Int32))
def zWw (vg vc : Nat → Int32) (p1 p2 : Int32) : Int32 := if zNE vg p2 = 0 then (if (zRem (p1 / (78 : Int32)) (9 : Int32)) = (8 : Int32) then (4 : Int32) else (zRem (p1 / (78 : Int32)) (4 : Int32))) else (zST vg vc / (512 : Int32))
def zSA (vg vc : Nat → Int32) (p1 p2 : Int32) : Int32 := if (6 : Int32) ≤ zAa vg vc p1 p2 then (0 : Int32) else (if (rL_isIn (vg ((9 : Int32)).toNatClampNeg) (zAa vg vc p1 p2)) = 0 then (0 : Int32) else (1 : Int32))
theorem zArgs {vg vc : Nat → Int32} {ni li mi mv nx al nc nl on il ba size gs : Int32} {ki fi se th : Nat → Int32} (hg : zJg vg ni li mi mv nx al nc nl on il ba size gs) (hc : zJc ki fi se th vc) (hC : ycan size ki fi se th) (hN : ynig ni nx size) {p1 p2 : Int32} (h1 : 0 ≤ p1.toInt) :
    (zAa vg vc p1 p2 = 6 ∨ vp_in (zAa vg vc p1 p2) 6) ∧ vp_in (zBb vg vc p1 p2) 6 ∧ (zWw vg vc p1 p2 = 4 ∨ vp_in (zWw vg vc p1 p2) 4) ∧ (zPL vg = 0 ↔ ¬ ni = 1) ∧ (ni = 1 → zST vg vc = zcd (ki nx.toNatClampNeg) (fi nx.toNatClampNeg) (se nx.toNatClampNeg) (th nx.toNatClampNeg)) ∧ (zSA vg vc p1 p2 = 0 ↔ (zAa vg vc p1 p2 = 6 ∨ rX7_isIn on (zAa vg vc p1 p2) = 0)) := by
  obtain ⟨g0, g1, g2, g3, g4, g5, g6, g7, g8, g9, g10, g11, g12⟩ := hg
  obtain ⟨c0, c1, c2, c3, c4, c5, c6⟩ := hC
  have hPL : zPL vg = 0 ↔ ¬ ni = 1 := by
    unfold zPL
    rw [zN4, g4]
    by_cases q : ni = 1
    · rw [if_pos q]
      exact ⟨fun r => absurd r z10, fun r => absurd q r⟩
    · rw [if_neg q]
      exact ⟨fun _ => q, fun _ => rfl⟩
  have hST : ni = 1 → zST vg vc = zcd (ki nx.toNatClampNeg) (fi nx.toNatClampNeg) (se nx.toNatClampNeg) (th nx.toNatClampNeg) := by
    intro q
    obtain ⟨n0, n1⟩ := hN q
    have hn : nx.toNatClampNeg < 12 := by
      have e := zcn n0
      omega
    unfold zST
    rw [if_neg (fun r => (hPL.mp r) q), zN7, g7, hc _ hn]
  have hNE : ¬ zNE vg p2 = 0 → ni = 1 := by
    intro q
    apply Classical.byContradiction
    intro r
    unfold zNE at q
    rw [if_pos (hPL.mpr r)] at q
    exact q rfl
  have hg9 : ∀ j : Nat, nx.toNatClampNeg = j → ni = 1 → j < 12 := by
    intro j hj q
    obtain ⟨n0, n1⟩ := hN q
    have e := zcn n0
    omega
  have hA : zAa vg vc p1 p2 = 6 ∨ vp_in (zAa vg vc p1 p2) 6 := by
    unfold zAa
    by_cases q : zNE vg p2 = 0
    · rw [if_pos q]
      exact zpk p1 13 12 6 6 6 rfl (by decide) h1
    · rw [if_neg q]
      have r := hNE q
      have hn := hg9 _ rfl r
      rw [hST r, zcd_a (c2 _ hn) (c3 _ hn) (c4 _ hn) (c5 _ hn)]
      exact Or.inr (c3 _ hn)
  refine ⟨hA, ?_, ?_, hPL, hST, ?_⟩
  · unfold zBb
    by_cases q : zNE vg p2 = 0
    · rw [if_pos q]
      exact zrI _ 6 6 rfl (by decide) (zdv0 (n := 13) rfl (by decide) h1)
    · rw [if_neg q]
      have r := hNE q
      have hn := hg9 _ rfl r
      rw [hST r, zcd_b (c2 _ hn) (c3 _ hn) (c4 _ hn) (c5 _ hn)]
      exact c4 _ hn
  · unfold zWw
    by_cases q : zNE vg p2 = 0
    · rw [if_pos q]
      exact zpk _ 9 8 4 4 4 rfl (by decide) (zdv0 (n := 78) rfl (by decide) h1)
    · rw [if_neg q]
      have r := hNE q
      have hn := hg9 _ rfl r
      rw [hST r, zcd_w (c2 _ hn) (c3 _ hn) (c4 _ hn) (c5 _ hn)]
      exact Or.inr (c5 _ hn)
  · unfold zSA
    rw [zN9, g9, zLI]
    rcases hA with q | q
    · rw [q, if_pos (by decide)]
      exact ⟨fun _ => Or.inl rfl, fun _ => rfl⟩
    · rw [if_neg (znle q rfl)]
      by_cases r : rX7_isIn on (zAa vg vc p1 p2) = 0
      · rw [if_pos r]
        exact ⟨fun _ => Or.inr r, fun _ => rfl⟩
      · rw [if_neg r]
        exact ⟨fun x => absurd x z10, fun x => x.elim (fun x => absurd x (zvne q rfl)) (fun x => absurd x r)⟩
