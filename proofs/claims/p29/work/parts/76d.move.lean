/-! moves: a gag is played -/
theorem ysr0 {w : Int32} (hw : vp_in w 1001) {n : Nat} (h16 : 16 ≤ n) (hn : n < 32) : w >>> (Int32.ofNat n &&& 31) = 0 := by
  have h := vp_in_iff.mp hw
  have e0 : (0 : Int32).toInt = 0 := rfl
  have hp : 65536 ≤ 2 ^ n := Nat.pow_le_pow_right (n := 2) (by decide) h16
  apply Int32.toInt_inj.mp
  rw [pk_shr w _ n (yi_k n hn), Int.shiftRight_eq_div_pow, e0]
  generalize 2 ^ n = q at hp
  exact Int.ediv_eq_zero_of_lt h.1 (by omega)
theorem zLaugh {w t : Int32} (hw : vp_in w 1001) (ht : 0 ≤ t.toInt) : (w >>> ((if (31 : Int32) < t then (31 : Int32) else t) &&& 31)).toInt = w.toInt / ((2 ^ t.toInt.toNat : Nat) : Int) := by
  have e31 : (31 : Int32).toInt = 31 := rfl
  have h := vp_in_iff.mp hw
  by_cases q : (31 : Int32) < t
  · rw [if_pos q]
    rw [Int32.lt_iff_toInt_lt] at q
    have z : w >>> ((31 : Int32) &&& 31) = 0 := ysr0 hw (n := 31) (by decide) (by decide)
    have hp : 1024 ≤ 2 ^ t.toInt.toNat := Nat.pow_le_pow_right (n := 2) (by decide) (show 10 ≤ t.toInt.toNat by omega)
    rw [z]
    exact (Int.ediv_eq_zero_of_lt h.1 (by omega)).symm
  · rw [if_neg q]
    rw [Int32.lt_iff_toInt_lt] at q
    have r : vp_in t 32 := zin_b ht (by omega)
    have p := pk_shr w (Int32.ofNat t.toNatClampNeg &&& 31) t.toNatClampNeg (yi_k _ (zin_lt r))
    rw [← yof r] at p
    rw [p, Int.shiftRight_eq_div_pow]
    rfl
theorem zL1445 (ni : Int32)(li : Int32)(mi : Int32)(mv : Int32)(nx : Int32)(al : Int32)(nc : Int32)(nl : Int32)(le : Nat → Int32)(wi : Nat → Int32)(pr : Nat → Int32)(tp : Nat → Int32)(gs : Int32)(on : Int32)(il : Int32)(ba : Int32)(kn : Nat → Int32)(ho : Nat → Int32)(vh : Nat → Int32)(vc : Nat → Int32)(ve : Nat → Int32)(vg : Nat → Int32)(p1 : Int32)(p2 : Int32) {t : Int32} (hL : ve (((6 : Int32) + (zRem (p2 / (4 : Int32)) ((vg ((3 : Int32)).toNatClampNeg) + (1 : Int32))))).toNatClampNeg = t) : ∀ (n : Nat) (la i : Int32), 0 ≤ la.toInt → 0 ≤ i.toInt → i.toInt ≤ t.toInt → t.toInt - i.toInt < n → (lL_isMove_11_1445_la1 ni li mi mv nx al nc nl le wi pr tp gs on il ba kn ho vh vc ve vg p1 p2 n la i).toInt = la.toInt / ((2 ^ (t.toInt - i.toInt).toNat : Nat) : Int) := by
  intro n
  induction n with
  | zero =>
    intro la i h0 h1 h2 h3
    omega
  | succ n ih =>
    intro la i h0 h1 h2 h3
    rw [lL_isMove_11_1445_la1, hL]
    by_cases hc : t ≤ i
    · rw [if_pos hc]
      rw [Int32.le_iff_toInt_le] at hc
      have e : (t.toInt - i.toInt).toNat = 0 := by omega
      rw [e]
      exact (Int.ediv_one _).symm
    · rw [if_neg hc]
      have hI := zInc hc
      rw [Int32.le_iff_toInt_le] at hc
      have e2 := zdK (a := la) (b := 2) (n := 2) rfl h0 (by decide)
      have e3 : (t.toInt - i.toInt).toNat = (t.toInt - (i + 1).toInt).toNat + 1 := by omega
      rw [ih (la / 2) (i + 1) (by rw [e2]; exact Int.ediv_nonneg h0 (by decide)) (by omega) (by omega) (by omega), e2, e3, Nat.pow_succ, Nat.mul_comm, Int.natCast_mul]
      exact Int.ediv_ediv_of_nonneg (by decide)
theorem zPS {vg : Nat → Int32} {ni li mi mv nx al nc nl on il ba size gs : Int32} (hg : zJg vg ni li mi mv nx al nc nl on il ba size gs) (h1 : ni = 1) (hn : ¬ nx = size) (p : Int32) :
    zJg (oL_passes_vg vg p) (oX7_passMinutes_ni ni li mi mv nx al nc nl p) li (oX7_passMinutes_mi ni li mi mv nx al nc nl p) mv nx al nc (oX7_passMinutes_nl ni li mi mv nx al nc nl p) on il ba size gs := by
  subst h1
  obtain ⟨g0, g1, g2, g3, g4, g5, g6, g7, g8, g9, g10, g11, g12⟩ := hg
  unfold zJg oL_passes_vg jL_passes_74_0 jL_passes_58_0 jL_passes_43_0 jL_passes_23_0 oX7_passMinutes_ni oX7_passMinutes_mi oX7_passMinutes_nl
  by_cases l : mi + p < li
  · simp [yupd32, zN0, zN4, zN5, zN6, zN7, zN8, zN11, zN12, g0, g1, g2, g3, g4, g5, g6, g7, g8, g9, g10, g11, g12, hn, l]
  · simp [yupd32, zN0, zN4, zN5, zN6, zN7, zN8, zN11, zN12, g0, g1, g2, g3, g4, g5, g6, g7, g8, g9, g10, g11, g12, hn, l]
/-- what the law keeps of a gag -/
theorem zgeT {l w p : Int32} (hl : vp_in l 21) (hw : vp_in w 1001) (hp : p = -1 ∨ vp_in p 4) : (zge l w p).toInt = l.toInt + 32 * w.toInt + 32768 * (p.toInt + 1) ∧ -1 ≤ p.toInt ∧ p.toInt ≤ 3 := by
  have h1 := vp_in_iff.mp hl
  have h2 := vp_in_iff.mp hw
  have em : (-1 : Int32).toInt = -1 := rfl
  have h3 : -1 ≤ p.toInt ∧ p.toInt ≤ 3 := by
    rcases hp with rfl | hp
    · omega
    · have h4 := vp_in_iff.mp hp
      omega
  have e1 : (1 : Int32).toInt = 1 := rfl
  have a1 := zaT (a := p) (b := 1) (by omega) (by omega)
  have a2 := zmK (k := 32) (n := 32) (b := w) rfl (by omega) (by omega)
  have a3 := zmK (k := 32768) (n := 32768) (b := p + 1) rfl (by omega) (by omega)
  have a4 := zaT (a := l) (b := (32 : Int32) * w) (by omega) (by omega)
  refine ⟨?_, h3⟩
  unfold zge
  rw [zaT (by omega) (by omega), a4, a3, a2, a1, e1]
theorem zge_p {l w p : Int32} (hl : vp_in l 21) (hw : vp_in w 1001) (hp : p = -1 ∨ vp_in p 4) : zge l w p / (32768 : Int32) - 1 = p := by
  have h1 := vp_in_iff.mp hl
  have h2 := vp_in_iff.mp hw
  obtain ⟨e, h3, h4⟩ := zgeT hl hw hp
  have e1 : (1 : Int32).toInt = 1 := rfl
  have e2 := zdK (a := zge l w p) (b := 32768) (n := 32768) rfl (by omega) (by omega)
  apply Int32.toInt_inj.mp
  rw [zsT (by omega) (by omega)]
  omega
theorem zge_w {l w p : Int32} (hl : vp_in l 21) (hw : vp_in w 1001) (hp : p = -1 ∨ vp_in p 4) : zRem (zge l w p / (32 : Int32)) (1024 : Int32) = w := by
  have h1 := vp_in_iff.mp hl
  have h2 := vp_in_iff.mp hw
  obtain ⟨e, h3, h4⟩ := zgeT hl hw hp
  have e2 := zdK (a := zge l w p) (b := 32) (n := 32) rfl (by omega) (by omega)
  apply Int32.toInt_inj.mp
  rw [zrK (n := 1024) rfl (by omega) (by omega), e2, e]
  omega
theorem zge_l {l w p : Int32} (hl : vp_in l 21) (hw : vp_in w 1001) (hp : p = -1 ∨ vp_in p 4) : zRem (zge l w p) (32 : Int32) = l := by
  have h1 := vp_in_iff.mp hl
  have h2 := vp_in_iff.mp hw
  obtain ⟨e, h3, h4⟩ := zgeT hl hw hp
  apply Int32.toInt_inj.mp
  rw [zrK (n := 32) rfl (by omega) (by omega), e]
  omega
theorem zmn (a b : Int32) : (if a ≤ b then a else b) = (if a < b then a else b) := by
  by_cases h1 : a < b
  · rw [if_pos h1, if_pos (by rw [Int32.lt_iff_toInt_lt] at h1; rw [Int32.le_iff_toInt_le]; omega)]
  · rw [if_neg h1]
    by_cases h2 : a ≤ b
    · rw [if_pos h2]
      apply Int32.toInt_inj.mp
      rw [Int32.lt_iff_toInt_lt] at h1
      rw [Int32.le_iff_toInt_le] at h2
      omega
    · rw [if_neg h2]
set_option maxHeartbeats 2000000 in
theorem zT_m11 {N : Nat} {ni li mi mv nx al nc nl on il ba size : Int32} {ki fi se th kT hT kn ho kb0 hb0 : Nat → Int32} {gs : Int32} {le wi pr tp pt : Nat → Int32} {fr fb : Nat → Int64} {vk vh vc ve vq vg : Nat → Int32} (h : zRc N ni li mi mv nx al nc nl on il ba size ki fi se th kT hT kn ho kb0 hb0 gs le wi pr tp pt fr fb vk vh vc ve vq vg) (hN9 : N < 1000) (p1 : Int32) (p2 : Int32) (h1 : 0 ≤ p1.toInt) (h2 : 0 ≤ p2.toInt) : rL_isMove_11 ni li mi mv nx al nc nl le wi pr tp gs on il ba kn ho vh vc ve vg p1 p2 = 1 ∧ zRc (N + 1) (oL_isMove_11_ni ni li mi mv nx al nc nl le wi pr tp gs on il ba kn ho vh vc ve vg p1 p2) li (oL_isMove_11_mi ni li mi mv nx al nc nl le wi pr tp gs on il ba kn ho vh vc ve vg p1 p2) mv nx (oL_isMove_11_al ni li mi mv nx al nc nl le wi pr tp gs on il ba kn ho vh vc ve vg p1 p2) nc (oL_isMove_11_nl ni li mi mv nx al nc nl le wi pr tp gs on il ba kn ho vh vc ve vg p1 p2) on il ba size ki fi se th kT hT kn ho kb0 hb0 gs le wi pr (oL_isMove_11_tp ni li mi mv nx al nc nl le wi pr tp gs on il ba kn ho vh vc ve vg p1 p2) pt fr fb vk vh vc (oL_isMove_11_ve ni li mi mv nx al nc nl le wi pr tp gs on il ba kn ho vh vc ve vg p1 p2) vq (oL_isMove_11_vg ni li mi mv nx al nc nl le wi pr tp gs on il ba kn ho vh vc ve vg p1 p2) := by
  obtain ⟨⟨iC, iG, iN, iS, iK0, iK, iH0, iH⟩, ⟨kA, kB⟩, ⟨hA, hB⟩, hc, ⟨hE, hTp⟩, hp, hg⟩ := h
  have hT0 := hTp
  have hTp := zJt_le hTp (Nat.le_succ N)
  have hg' := hg
  obtain ⟨g0, g1, g2, g3, g4, g5, g6, g7, g8, g9, g10, g11, g12⟩ := hg'
  obtain ⟨aA, aB, aW, aP, aS, aI⟩ := zArgs hg hc iC iN (p1 := p1) (p2 := p2) h1
  have c0 := iC.1
  have c1 := iC.2.1
  have h26 : ¬ zPL vg = 0 → vp_in (vg ((7 : Int32)).toNatClampNeg) 13 := by
    intro q
    have r : ni = 1 := Classical.byContradiction (fun r => q (aP.mpr r))
    obtain ⟨n0, n1⟩ := iN r
    rw [zN7, g7]
    exact zin_b n0 (by omega)
  have R0 : zRc (N + 1) ni li mi mv nx al nc nl on il ba size ki fi se th kT hT kn ho kb0 hb0 gs le wi pr tp pt fr fb vk vh vc ve vq vg := ⟨⟨iC, iG, iN, iS, iK0, iK, iH0, iH⟩, ⟨kA, kB⟩, ⟨hA, hB⟩, hc, ⟨hE, hTp⟩, hp, hg⟩
  unfold rL_isMove_11 oL_isMove_11_tp oL_isMove_11_al oL_isMove_11_ni oL_isMove_11_mi oL_isMove_11_nl oL_isMove_11_ve oL_isMove_11_vg jL_isMove_11_1571_0 jL_isMove_11_1537_0 jL_isMove_11_1537_1 jL_isMove_11_1537_2 jL_isMove_11_1534_0 jL_isMove_11_1418_0 jL_isMove_11_1378_0 jL_isMove_11_1357_0
  have e88 : jL_isMove_11_88_0 ni li mi mv nx al nc nl le wi pr tp gs on il ba kn ho vh vc ve vg p1 p2 = zAa vg vc p1 p2 := rfl
  have e114 : jL_isMove_11_114_0 ni li mi mv nx al nc nl le wi pr tp gs on il ba kn ho vh vc ve vg p1 p2 = zBb vg vc p1 p2 := rfl
  have e154 : jL_isMove_11_154_0 ni li mi mv nx al nc nl le wi pr tp gs on il ba kn ho vh vc ve vg p1 p2 = zWw vg vc p1 p2 := rfl
  have e13 : jL_isMove_11_13_0 ni li mi mv nx al nc nl le wi pr tp gs on il ba kn ho vh vc ve vg p1 p2 = zPL vg := rfl
  have e31 : jL_isMove_11_31_0 ni li mi mv nx al nc nl le wi pr tp gs on il ba kn ho vh vc ve vg p1 p2 = zST vg vc := rfl
  have e181 : jL_isMove_11_181_0 ni li mi mv nx al nc nl le wi pr tp gs on il ba kn ho vh vc ve vg p1 p2 = zSA vg vc p1 p2 := rfl
  have e50 : jL_isMove_11_50_0 ni li mi mv nx al nc nl le wi pr tp gs on il ba kn ho vh vc ve vg p1 p2 = zNE vg p2 := rfl
  simp only [e88, e114, e154, e13, e31, e181, e50]
  clear e88 e114 e154 e13 e31 e181 e50
  generalize zAa vg vc p1 p2 = a at aA aI ⊢
  generalize zBb vg vc p1 p2 = b at aB ⊢
  generalize zWw vg vc p1 p2 = w at aW ⊢
  generalize zSA vg vc p1 p2 = sa at aI ⊢
  generalize zST vg vc = st at aS ⊢
  have gs0 := iG.1
  have gs6 := iG.2.1
  have e1 : (1 : Int32).toInt = 1 := rfl
  have e6 : (6 : Int32).toInt = 6 := rfl
  have hq0 : 0 ≤ (p2 / (4 : Int32)).toInt := zdv0 (n := 4) rfl (by decide) h2
  have egs := zaT (a := gs) (b := 1) (by omega) (by omega)
  have hgi : 0 ≤ (zRem (p2 / (4 : Int32)) (gs + 1)).toInt ∧ (zRem (p2 / (4 : Int32)) (gs + 1)).toInt ≤ gs.toInt := by
    rw [zrT hq0 (by omega)]
    have r1 := Int.emod_nonneg (p2 / (4 : Int32)).toInt (show (gs + 1).toInt ≠ 0 by omega)
    have r2 := Int.emod_lt_of_pos (p2 / (4 : Int32)).toInt (show 0 < (gs + 1).toInt by omega)
    omega
  rw [zN3, g3]
  generalize hgie : zRem (p2 / (4 : Int32)) (gs + 1) = gi at hgi ⊢
  have keep : ∀ n9 : Nat, xX7_play ni li mi mv nx al nc nl le wi pr tp gs on il ba kn ho gi a = n9 → ¬ n9 = 0 → (oL_does_16_tp ni li mi mv nx al nc nl le wi pr tp gs on il ba kn ho gi a 0 0 = tp ∧ oL_does_16_al ni li mi mv nx al nc nl le wi pr tp gs on il ba kn ho gi a 0 0 = al ∧ oL_does_16_ni ni li mi mv nx al nc nl le wi pr tp gs on il ba kn ho gi a 0 0 = ni ∧ oL_does_16_mi ni li mi mv nx al nc nl le wi pr tp gs on il ba kn ho gi a 0 0 = mi ∧ oL_does_16_nl ni li mi mv nx al nc nl le wi pr tp gs on il ba kn ho gi a 0 0 = nl) := by
    intro n9 q1 q2
    unfold oL_does_16_tp oL_does_16_al oL_does_16_ni oL_does_16_mi oL_does_16_nl
    rw [q1]
    simp only [if_neg q2]
    exact ⟨trivial, trivial, trivial, trivial, trivial⟩
  have hnz : ¬ gs + 1 = 0 := fun q => by
    rw [q] at egs
    have e0 : (0 : Int32).toInt = 0 := rfl
    omega
  by_cases v1 : gi.toInt < gs.toInt ∧ vp_in a 6
  · obtain ⟨vg1, ra⟩ := v1
    have n1 : ¬ gs ≤ gi := by
      rw [Int32.le_iff_toInt_le]
      omega
    have lg : gi < gs := by
      rw [Int32.lt_iff_toInt_lt]
      exact vg1
    have rg : vp_in gi 6 := zin_b hgi.1 (by omega)
    have ng := zci rg
    have lg6 := zin_lt rg
    obtain ⟨rl, ev⟩ := hE gi.toNatClampNeg (by omega)
    have rw_ := iG.2.2.1 _ lg6
    have rp := iG.2.2.2 _ lg6
    obtain ⟨et, t0, tN⟩ := hT0 _ lg6
    have x0 : xX7_play ni li mi mv nx al nc nl le wi pr tp gs on il ba kn ho gi a = (if ni = 1 then (if rX7_isIn on a = 0 then 3 else (if pr gi.toNatClampNeg = -1 then 0 else (if ho (pr gi.toNatClampNeg).toNatClampNeg = a then 0 else 3))) else 3) := by
      unfold xX7_play
      rw [if_neg (zlt0 hgi.1), if_pos lg, if_pos (zMk ra)]
      by_cases q : ni = 1
      · rw [if_pos (zPL0 q), if_pos q]
        by_cases v3 : rX7_isIn on a = 0
        · rw [zOn3 v3, if_neg z3n, if_pos v3]
        · rw [if_pos (zOn0 v3), if_neg v3]
      · rw [zPL3 q, if_neg z3n, if_neg q]
    have eF : (if gs ≤ gi then (0 : Int32) else (if (6 : Int32) ≤ a then 0 else 1)) = 1 := by rw [if_neg n1, if_neg (znle ra rfl)]
    simp only [eF, if_neg z10, ev, zge_p rl rw_ rp, zge_w rl rw_ rp]
    by_cases v : ni = 1 ∧ ¬ rX7_isIn on a = 0 ∧ (pr gi.toNatClampNeg = -1 ∨ ho (pr gi.toNatClampNeg).toNatClampNeg = a)
    · obtain ⟨q, v3, v5⟩ := v
      have hpl : ¬ zPL vg = 0 := fun r => (aP.mp r) q
      have hsa : ¬ sa = 0 := fun r => (aI.mp r).elim (zvne ra rfl) v3
      have q0 : ¬ ni = 0 := by
        rw [q]
        exact z10
      rw [if_neg q0] at kB hB
      have xs : xX7_play ni li mi mv nx al nc nl le wi pr tp gs on il ba kn ho gi a = 0 := by
        rw [x0, if_pos q, if_neg v3]
        rcases v5 with v5 | v5
        · rw [if_pos v5]
        · rw [if_pos v5, ite_self]
      have eC : (if zPL vg = 0 then (0 : Int32) else (if sa = 0 then (0 : Int32) else (if pr gi.toNatClampNeg < 0 then (1 : Int32) else (if vh ((4 : Int32) + pr gi.toNatClampNeg).toNatClampNeg = (a + (1 : Int32)) then (1 : Int32) else (0 : Int32))))) = 1 := by
        rw [if_neg hpl, if_neg hsa]
        rcases rp with rp | rp
        · rw [rp, if_pos (by decide)]
        · rw [if_neg (zlt0 (vp_in_iff.mp rp).1), zc4p rp]
          have hB' : vh (4 + (pr gi.toNatClampNeg).toNatClampNeg) = ho (pr gi.toNatClampNeg).toNatClampNeg + 1 := hB _ (zin_lt rp)
          rw [hB', if_pos (zp1i.mpr (v5.resolve_left (fun r => ym1 rp r.symm)))]
      simp only [eC, if_neg z10]
      obtain ⟨n0, n1'⟩ := iN q
      have hnx : ¬ nx = size := fun r => by
        rw [r] at n1'
        omega
      have hLI : ve (((6 : Int32) + zRem (p2 / (4 : Int32)) ((vg ((3 : Int32)).toNatClampNeg) + (1 : Int32)))).toNatClampNeg = tp gi.toNatClampNeg := by
        rw [zN3, g3, hgie, zc6p rg, et]
      have hla := zL1445 ni li mi mv nx al nc nl le wi pr tp gs on il ba kn ho vh vc ve vg p1 p2 hLI ((ve (((6 : Int32) + zRem (p2 / (4 : Int32)) ((vg ((3 : Int32)).toNatClampNeg) + (1 : Int32)))).toNatClampNeg).toNatClampNeg + 1) (wi gi.toNatClampNeg) 0 (vp_in_iff.mp rw_).1 (by decide) (by have e0 : (0 : Int32).toInt = 0 := rfl; omega) (by
        rw [hLI]
        have e0 : (0 : Int32).toInt = 0 := rfl
        have z := zcn t0
        omega)
      rw [hLI] at hla
      have e0 : (0 : Int32).toInt = 0 := rfl
      have hl2 : lL_isMove_11_1445_la1 ni li mi mv nx al nc nl le wi pr tp gs on il ba kn ho vh vc ve vg p1 p2 ((tp gi.toNatClampNeg).toNatClampNeg + 1) (wi gi.toNatClampNeg) 0 = rX1_laughsNow le wi pr tp gs gi := by
        apply Int32.toInt_inj.mp
        unfold rX1_laughsNow
        rw [hla, zLaugh rw_ t0, e0, Int.sub_zero]
      rw [zc6p rg, et, hl2, zN10, g10, zuN _ _ (show gi.toNatClampNeg ≠ 6 + gi.toNatClampNeg by omega), ev, zge_l rl rw_ rp, zN5, zN6, zuN _ _ (show 5 ≠ 10 by decide), zuN _ _ (show 6 ≠ 10 by decide), g5, g6, zmn]
      have hg2 : zJg (upd vg 10 (al + rX1_laughsNow le wi pr tp gs gi)) ni li mi mv nx (al + rX1_laughsNow le wi pr tp gs gi) nc nl on il ba size gs := by
        refine ⟨?_, ?_, ?_, ?_, ?_, ?_, ?_, ?_, ?_, ?_, zuE _ _ _, ?_, ?_⟩ <;> (rw [zuN _ _ (by decide)]; assumption)
      have M1 := zPS hg2 q hnx (if li - mi < le gi.toNatClampNeg then li - mi else le gi.toNatClampNeg)
      have i2 := yk_16_2 (ni := ni) (li := li) (mi := mi) (mv := mv) (al := al) (nc := nc) (nl := nl) (on := on) (il := il) (ba := ba) (gs := gs) (kn := kn) (ho := ho) (le := le) (wi := wi) (pr := pr) (tp := tp) gi a 0 0 iN
      have k : oL_does_16_tp ni li mi mv nx al nc nl le wi pr tp gs on il ba kn ho gi a 0 0 = upd tp gi.toNatClampNeg (tp gi.toNatClampNeg + 1) ∧ oL_does_16_al ni li mi mv nx al nc nl le wi pr tp gs on il ba kn ho gi a 0 0 = al + rX1_laughsNow le wi pr tp gs gi ∧ oL_does_16_ni ni li mi mv nx al nc nl le wi pr tp gs on il ba kn ho gi a 0 0 = oX7_passMinutes_ni ni li mi mv nx (al + rX1_laughsNow le wi pr tp gs gi) nc nl (if li - mi < le gi.toNatClampNeg then li - mi else le gi.toNatClampNeg) ∧ oL_does_16_mi ni li mi mv nx al nc nl le wi pr tp gs on il ba kn ho gi a 0 0 = oX7_passMinutes_mi ni li mi mv nx (al + rX1_laughsNow le wi pr tp gs gi) nc nl (if li - mi < le gi.toNatClampNeg then li - mi else le gi.toNatClampNeg) ∧ oL_does_16_nl ni li mi mv nx al nc nl le wi pr tp gs on il ba kn ho gi a 0 0 = oX7_passMinutes_nl ni li mi mv nx (al + rX1_laughsNow le wi pr tp gs gi) nc nl (if li - mi < le gi.toNatClampNeg then li - mi else le gi.toNatClampNeg) := by
        unfold oL_does_16_tp oL_does_16_al oL_does_16_ni oL_does_16_mi oL_does_16_nl
        rw [xs]
        exact ⟨rfl, rfl, rfl, rfl, rfl⟩
      obtain ⟨k0, k1, k2, k3, k4⟩ := k
      rw [k2] at i2
      rw [k0, k1, k2, k3, k4]
      have nz : ¬ oX7_passMinutes_ni ni li mi mv nx (al + rX1_laughsNow le wi pr tp gs gi) nc nl (if li - mi < le gi.toNatClampNeg then li - mi else le gi.toNatClampNeg) = 0 := by
        unfold oX7_passMinutes_ni
        rw [if_pos q, q]
        split <;> split <;> decide
      have tp1 := zaT (a := tp gi.toNatClampNeg) (b := 1) (by omega) (by omega)
      refine ⟨?_, ⟨iC, iG, i2, iS, iK0, iK, iH0, iH⟩, ⟨kA, ?_⟩, ⟨hA, ?_⟩, hc, ⟨?_, ?_⟩, hp, M1⟩
      · unfold rL_does_16 rX7_play
        rw [xs, if_pos rfl]
        exact if_pos rfl
      · rw [if_neg nz]
        exact kB
      · rw [if_neg nz]
        exact hB
      · intro j hj
        rw [zuN _ _ (by omega)]
        exact hE j hj
      · intro j hj
        rw [yupd32, yupd32]
        by_cases z : j = gi.toNatClampNeg
        · rw [if_pos z, if_pos (by omega)]
          exact ⟨rfl, by omega, by omega⟩
        · rw [if_neg z, if_neg (by omega)]
          exact hTp j hj
    · have xs : xX7_play ni li mi mv nx al nc nl le wi pr tp gs on il ba kn ho gi a = 3 := by
        rw [x0]
        by_cases q : ni = 1
        · rw [if_pos q]
          by_cases v3 : rX7_isIn on a = 0
          · rw [if_pos v3]
          · rw [if_neg v3, if_neg (fun v5 => v ⟨q, v3, Or.inl v5⟩), if_neg (fun v5 => v ⟨q, v3, Or.inr v5⟩)]
        · rw [if_neg q]
      have eC : (if zPL vg = 0 then (0 : Int32) else (if sa = 0 then (0 : Int32) else (if pr gi.toNatClampNeg < 0 then (1 : Int32) else (if vh ((4 : Int32) + pr gi.toNatClampNeg).toNatClampNeg = (a + (1 : Int32)) then (1 : Int32) else (0 : Int32))))) = 0 := by
        by_cases q : ni = 1
        · rw [if_neg (fun r => (aP.mp r) q)]
          by_cases v3 : rX7_isIn on a = 0
          · rw [if_pos (aI.mpr (Or.inr v3))]
          · rw [if_neg (fun r => (aI.mp r).elim (zvne ra rfl) v3)]
            have rp2 := rp.resolve_left (fun v5 => v ⟨q, v3, Or.inl v5⟩)
            have q0 : ¬ ni = 0 := by
              rw [q]
              exact z10
            rw [if_neg q0] at hB
            have hB' : vh (4 + (pr gi.toNatClampNeg).toNatClampNeg) = ho (pr gi.toNatClampNeg).toNatClampNeg + 1 := hB _ (zin_lt rp2)
            rw [if_neg (zlt0 (vp_in_iff.mp rp2).1), zc4p rp2, hB', if_neg (fun r => v ⟨q, v3, Or.inr (zp1i.mp r)⟩)]
        · rw [if_pos (aP.mpr q)]
      obtain ⟨k0, k1, k2, k3, k4⟩ := keep 3 xs z3n
      rw [k0, k1, k2, k3, k4]
      simp only [eC, if_true]
      refine ⟨?_, R0⟩
      unfold rL_does_16
      rw [xs, if_neg z3n, if_neg z31n, if_pos rfl]
  · have eF : (if gs ≤ gi then (0 : Int32) else (if (6 : Int32) ≤ a then 0 else 1)) = 0 := by
      by_cases r : gs ≤ gi
      · rw [if_pos r]
      · rw [if_neg r]
        rw [Int32.le_iff_toInt_le] at r
        rcases aA with rfl | ra
        · rw [if_pos (by decide)]
        · exact absurd ⟨by omega, ra⟩ v1
    have xs : xX7_play ni li mi mv nx al nc nl le wi pr tp gs on il ba kn ho gi a = 1 := by
      unfold xX7_play
      rw [if_neg (zlt0 hgi.1)]
      by_cases r : gi < gs
      · rw [if_pos r]
        rw [Int32.lt_iff_toInt_lt] at r
        rcases aA with rfl | ra
        · rw [zM6, if_neg z1n]
        · exact absurd ⟨r, ra⟩ v1
      · rw [if_neg r]
    obtain ⟨k0, k1, k2, k3, k4⟩ := keep 1 xs z1n
    rw [k0, k1, k2, k3, k4]
    simp only [eF, if_true]
    refine ⟨?_, R0⟩
    unfold rL_does_16
    rw [xs, if_neg z1n, if_pos rfl, if_pos rfl]
set_option maxHeartbeats 2000000 in
theorem zT_m11p {N : Nat} {ni li mi mv nx al nc nl on il ba size : Int32} {ki fi se th kT hT kn ho kb0 hb0 : Nat → Int32} {gs : Int32} {le wi pr tp pt : Nat → Int32} {fr fb : Nat → Int64} {vk vh vc ve vq vg : Nat → Int32} (h : zRc N ni li mi mv nx al nc nl on il ba size ki fi se th kT hT kn ho kb0 hb0 gs le wi pr tp pt fr fb vk vh vc ve vq vg) (hN9 : N < 1000) (p1 : Int32) (p2 : Int32) (h1 : 0 ≤ p1.toInt) (h2 : 0 ≤ p2.toInt) : (¬ (jL_isMove_11_1418_0 ni li mi mv nx al nc nl le wi pr tp gs on il ba kn ho vh vc ve vg p1 p2) = 0 → vp_in ((6 : Int32) + (zRem (p2 / (4 : Int32)) ((vg ((3 : Int32)).toNatClampNeg) + (1 : Int32)))) 12) ∧ (¬ (jL_isMove_11_13_0 ni li mi mv nx al nc nl le wi pr tp gs on il ba kn ho vh vc ve vg p1 p2) = 0 → vp_in (vg ((7 : Int32)).toNatClampNeg) 13) ∧ ((3 : Int32) ≤ (11 : Int32) → ¬ (11 : Int32) = (3 : Int32) → (6 : Int32) ≤ (11 : Int32) → (8 : Int32) ≤ (11 : Int32) → ¬ (11 : Int32) = (8 : Int32) → (11 : Int32) ≤ (11 : Int32) → ¬ ((vg ((3 : Int32)).toNatClampNeg) + (1 : Int32)) = 0) ∧ ((3 : Int32) ≤ (11 : Int32) → ¬ (11 : Int32) = (3 : Int32) → (6 : Int32) ≤ (11 : Int32) → (8 : Int32) ≤ (11 : Int32) → ¬ (11 : Int32) = (8 : Int32) → (11 : Int32) ≤ (11 : Int32) → ¬ (jL_isMove_11_1357_0 ni li mi mv nx al nc nl le wi pr tp gs on il ba kn ho vh vc ve vg p1 p2) = 0 → vp_in (zRem (p2 / (4 : Int32)) ((vg ((3 : Int32)).toNatClampNeg) + (1 : Int32))) 12) ∧ ((3 : Int32) ≤ (11 : Int32) → ¬ (11 : Int32) = (3 : Int32) → (6 : Int32) ≤ (11 : Int32) → (8 : Int32) ≤ (11 : Int32) → ¬ (11 : Int32) = (8 : Int32) → (11 : Int32) ≤ (11 : Int32) → ¬ (jL_isMove_11_1357_0 ni li mi mv nx al nc nl le wi pr tp gs on il ba kn ho vh vc ve vg p1 p2) = 0 → ¬ (jL_isMove_11_13_0 ni li mi mv nx al nc nl le wi pr tp gs on il ba kn ho vh vc ve vg p1 p2) = 0 → ¬ (jL_isMove_11_181_0 ni li mi mv nx al nc nl le wi pr tp gs on il ba kn ho vh vc ve vg p1 p2) = 0 → ¬ (jL_isMove_11_1378_0 ni li mi mv nx al nc nl le wi pr tp gs on il ba kn ho vh vc ve vg p1 p2) < 0 → vp_in ((4 : Int32) + (jL_isMove_11_1378_0 ni li mi mv nx al nc nl le wi pr tp gs on il ba kn ho vh vc ve vg p1 p2)) 9) ∧ ((3 : Int32) ≤ (11 : Int32) → ¬ (11 : Int32) = (3 : Int32) → (6 : Int32) ≤ (11 : Int32) → (8 : Int32) ≤ (11 : Int32) → ¬ (11 : Int32) = (8 : Int32) → (11 : Int32) ≤ (11 : Int32) → ¬ (jL_isMove_11_1418_0 ni li mi mv nx al nc nl le wi pr tp gs on il ba kn ho vh vc ve vg p1 p2) = 0 → vp_in (zRem (p2 / (4 : Int32)) ((vg ((3 : Int32)).toNatClampNeg) + (1 : Int32))) 12) ∧ ((3 : Int32) ≤ (11 : Int32) → ¬ (11 : Int32) = (3 : Int32) → (6 : Int32) ≤ (11 : Int32) → (8 : Int32) ≤ (11 : Int32) → ¬ (11 : Int32) = (8 : Int32) → (11 : Int32) ≤ (11 : Int32) → ¬ (jL_isMove_11_1418_0 ni li mi mv nx al nc nl le wi pr tp gs on il ba kn ho vh vc ve vg p1 p2) = 0 → vp_in ((6 : Int32) + (zRem (p2 / (4 : Int32)) ((vg ((3 : Int32)).toNatClampNeg) + (1 : Int32)))) 12) ∧ ((3 : Int32) ≤ (11 : Int32) → ¬ (11 : Int32) = (3 : Int32) → (6 : Int32) ≤ (11 : Int32) → (8 : Int32) ≤ (11 : Int32) → ¬ (11 : Int32) = (8 : Int32) → (11 : Int32) ≤ (11 : Int32) → ¬ (jL_isMove_11_1418_0 ni li mi mv nx al nc nl le wi pr tp gs on il ba kn ho vh vc ve vg p1 p2) = 0 → vp_in ((6 : Int32) + (zRem (p2 / (4 : Int32)) ((vg ((3 : Int32)).toNatClampNeg) + (1 : Int32)))) 12) ∧ ((3 : Int32) ≤ (11 : Int32) → ¬ (11 : Int32) = (3 : Int32) → (6 : Int32) ≤ (11 : Int32) → (8 : Int32) ≤ (11 : Int32) → ¬ (11 : Int32) = (8 : Int32) → (11 : Int32) ≤ (11 : Int32) → ¬ (jL_isMove_11_1418_0 ni li mi mv nx al nc nl le wi pr tp gs on il ba kn ho vh vc ve vg p1 p2) = 0 → vp_in (zRem (p2 / (4 : Int32)) ((vg ((3 : Int32)).toNatClampNeg) + (1 : Int32))) 12) := by
  obtain ⟨⟨iC, iG, iN, iS, iK0, iK, iH0, iH⟩, ⟨kA, kB⟩, ⟨hA, hB⟩, hc, ⟨hE, hTp⟩, hp, hg⟩ := h
  have hg' := hg
  obtain ⟨g0, g1, g2, g3, g4, g5, g6, g7, g8, g9, g10, g11, g12⟩ := hg'
  have c1 := iC.2.1
  have gs0 := iG.1
  have gs6 := iG.2.1
  have e1 : (1 : Int32).toInt = 1 := rfl
  have e6 : (6 : Int32).toInt = 6 := rfl
  have hq0 : 0 ≤ (p2 / (4 : Int32)).toInt := zdv0 (n := 4) rfl (by decide) h2
  have egs := zaT (a := gs) (b := 1) (by omega) (by omega)
  have hgi : 0 ≤ (zRem (p2 / (4 : Int32)) (gs + 1)).toInt ∧ (zRem (p2 / (4 : Int32)) (gs + 1)).toInt ≤ gs.toInt := by
    rw [zrT hq0 (by omega)]
    have r1 := Int.emod_nonneg (p2 / (4 : Int32)).toInt (show (gs + 1).toInt ≠ 0 by omega)
    have r2 := Int.emod_lt_of_pos (p2 / (4 : Int32)).toInt (show 0 < (gs + 1).toInt by omega)
    omega
  have hF : ¬ jL_isMove_11_1357_0 ni li mi mv nx al nc nl le wi pr tp gs on il ba kn ho vh vc ve vg p1 p2 = 0 → (zRem (p2 / (4 : Int32)) (gs + 1)).toInt < gs.toInt := by
    intro q
    unfold jL_isMove_11_1357_0 at q
    rw [zN3, g3] at q
    apply Classical.byContradiction
    intro r
    rw [if_pos (by rw [Int32.le_iff_toInt_le]; omega)] at q
    exact q rfl
  have hC : ¬ jL_isMove_11_1418_0 ni li mi mv nx al nc nl le wi pr tp gs on il ba kn ho vh vc ve vg p1 p2 = 0 → (zRem (p2 / (4 : Int32)) (gs + 1)).toInt < gs.toInt := by
    intro q
    refine hF (fun r => ?_)
    unfold jL_isMove_11_1418_0 at q
    rw [if_pos r] at q
    exact q rfl
  have hV : ∀ z : Int32, 0 ≤ z.toInt → z.toInt < gs.toInt → vp_in ((6 : Int32) + z) 12 := fun z z0 z1 => zi6 (zin_b z0 (by omega))
  have hP : ¬ jL_isMove_11_1357_0 ni li mi mv nx al nc nl le wi pr tp gs on il ba kn ho vh vc ve vg p1 p2 = 0 → jL_isMove_11_1378_0 ni li mi mv nx al nc nl le wi pr tp gs on il ba kn ho vh vc ve vg p1 p2 = pr (zRem (p2 / (4 : Int32)) (gs + 1)).toNatClampNeg := by
    intro q
    have r := hF q
    unfold jL_isMove_11_1378_0
    rw [if_neg q, zN3, g3]
    have ng := zcn hgi.1
    obtain ⟨rl, ev⟩ := hE (zRem (p2 / (4 : Int32)) (gs + 1)).toNatClampNeg (by omega)
    rw [ev, zge_p rl (iG.2.2.1 _ (by omega)) (iG.2.2.2 _ (by omega))]
  rw [zN3, g3]
  refine ⟨fun q => hV _ hgi.1 (hC q), fun q => ?_, fun _ _ _ _ _ _ q => ?_, fun _ _ _ _ _ _ _ => zin_b hgi.1 (by omega), fun _ _ _ _ _ _ q _ _ r => ?_, fun _ _ _ _ _ _ _ => zin_b hgi.1 (by omega), fun _ _ _ _ _ _ q => hV _ hgi.1 (hC q), fun _ _ _ _ _ _ q => hV _ hgi.1 (hC q), fun _ _ _ _ _ _ _ => zin_b hgi.1 (by omega)⟩
  · have r : ni = 1 := by
      apply Classical.byContradiction
      intro r
      unfold jL_isMove_11_13_0 at q
      rw [zN4, g4, if_neg r] at q
      exact q rfl
    obtain ⟨n0, n1⟩ := iN r
    rw [zN7, g7]
    exact zin_b n0 (by omega)
  · rw [q] at egs
    have e0 : (0 : Int32).toInt = 0 := rfl
    omega
  · rw [hP q] at r ⊢
    have ng := zcn hgi.1
    have rq := hF q
    rcases iG.2.2.2 (zRem (p2 / (4 : Int32)) (gs + 1)).toNatClampNeg (by omega) with z | z
    · rw [z] at r
      exact absurd (by decide) r
    · exact zi4 z
