/-! moves, on -/
set_option maxHeartbeats 2000000 in
theorem zT_m6 {N : Nat} {ni li mi mv nx al nc nl on il ba size : Int32} {ki fi se th kT hT kn ho kb0 hb0 : Nat → Int32} {gs : Int32} {le wi pr tp pt : Nat → Int32} {fr fb : Nat → Int64} {vk vh vc ve vq vg : Nat → Int32} (h : zRc N ni li mi mv nx al nc nl on il ba size ki fi se th kT hT kn ho kb0 hb0 gs le wi pr tp pt fr fb vk vh vc ve vq vg) (p1 : Int32) (p2 : Int32) (h1 : 0 ≤ p1.toInt) (h2 : 0 ≤ p2.toInt) : (¬ (jL_isMove_6_13_0 ni li mi mv nx al nc nl ki fi se th size on il ba kn ho vh vc vg p1 p2) = 0 → vp_in (vg ((7 : Int32)).toNatClampNeg) 13) ∧ ((3 : Int32) ≤ (6 : Int32) → ¬ (6 : Int32) = (3 : Int32) → (6 : Int32) ≤ (6 : Int32) → ¬ (8 : Int32) ≤ (6 : Int32) → ¬ (jL_isMove_6_827_0 ni li mi mv nx al nc nl ki fi se th size on il ba kn ho vh vc vg p1 p2) = 0 → ¬ (jL_isMove_6_841_0 ni li mi mv nx al nc nl ki fi se th size on il ba kn ho vh vc vg p1 p2) = 0 → ¬ (jL_isMove_6_13_0 ni li mi mv nx al nc nl ki fi se th size on il ba kn ho vh vc vg p1 p2) = 0 → ¬ (jL_isMove_6_181_0 ni li mi mv nx al nc nl ki fi se th size on il ba kn ho vh vc vg p1 p2) = 0 → ¬ (rL_isIn (vg ((9 : Int32)).toNatClampNeg) (jL_isMove_6_114_0 ni li mi mv nx al nc nl ki fi se th size on il ba kn ho vh vc vg p1 p2)) = 0 → vp_in ((4 : Int32) + (jL_isMove_6_154_0 ni li mi mv nx al nc nl ki fi se th size on il ba kn ho vh vc vg p1 p2)) 9) ∧ ((3 : Int32) ≤ (6 : Int32) → ¬ (6 : Int32) = (3 : Int32) → (6 : Int32) ≤ (6 : Int32) → ¬ (8 : Int32) ≤ (6 : Int32) → vp_in (jL_isMove_6_903_0 ni li mi mv nx al nc nl ki fi se th size on il ba kn ho vh vc vg p1 p2) 9) ∧ rL_isMove_6 ni li mi mv nx al nc nl ki fi se th size on il ba kn ho vh vc vg p1 p2 = 1 ∧ zRc (N + 1) (oL_isMove_6_ni ni li mi mv nx al nc nl ki fi se th size on il ba kn ho vh vc vg p1 p2) li (oL_isMove_6_mi ni li mi mv nx al nc nl ki fi se th size on il ba kn ho vh vc vg p1 p2) (oL_isMove_6_mv ni li mi mv nx al nc nl ki fi se th size on il ba kn ho vh vc vg p1 p2) (oL_isMove_6_nx ni li mi mv nx al nc nl ki fi se th size on il ba kn ho vh vc vg p1 p2) al (oL_isMove_6_nc ni li mi mv nx al nc nl ki fi se th size on il ba kn ho vh vc vg p1 p2) (oL_isMove_6_nl ni li mi mv nx al nc nl ki fi se th size on il ba kn ho vh vc vg p1 p2) on il ba size ki fi se th kT hT kn (oL_isMove_6_ho ni li mi mv nx al nc nl ki fi se th size on il ba kn ho vh vc vg p1 p2) kb0 hb0 gs le wi pr tp pt fr fb vk (oL_isMove_6_vh ni li mi mv nx al nc nl ki fi se th size on il ba kn ho vh vc vg p1 p2) vc ve vq (oL_isMove_6_vg ni li mi mv nx al nc nl ki fi se th size on il ba kn ho vh vc vg p1 p2) := by
  obtain ⟨⟨iC, iG, iN, iS, iK0, iK, iH0, iH⟩, ⟨kA, kB⟩, ⟨hA, hB⟩, hc, ⟨hE, hTp⟩, hp, hg⟩ := h
  have hTp := zJt_le hTp (Nat.le_succ N)
  have hg' := hg
  obtain ⟨g0, g1, g2, g3, g4, g5, g6, g7, g8, g9, g10, g11, g12⟩ := hg'
  obtain ⟨aA, aB, aW, aP, aS, aI⟩ := zArgs hg hc iC iN (p1 := p1) (p2 := p2) h1
  have c0 := iC.1
  have c1 := iC.2.1
  have h26 : ¬ zPL vg = 0 → vp_in (vg ((7 : Int32)).toNatClampNeg) 13 := by
    intro q
    have r : ni = 1 := Classical.byContradiction (fun r => q (aP.mpr r))
    obtain ⟨n0, n1⟩ := iN r
    rw [zN7, g7]
    exact zin_b n0 (by omega)
  have R0 : zRc (N + 1) ni li mi mv nx al nc nl on il ba size ki fi se th kT hT kn ho kb0 hb0 gs le wi pr tp pt fr fb vk vh vc ve vq vg := ⟨⟨iC, iG, iN, iS, iK0, iK, iH0, iH⟩, ⟨kA, kB⟩, ⟨hA, hB⟩, hc, ⟨hE, hTp⟩, hp, hg⟩
  unfold rL_isMove_6 oL_isMove_6_ho oL_isMove_6_ni oL_isMove_6_mi oL_isMove_6_mv oL_isMove_6_nx oL_isMove_6_nc oL_isMove_6_nl oL_isMove_6_vh oL_isMove_6_vg jL_isMove_6_986_0 jL_isMove_6_986_1 jL_isMove_6_903_0 jL_isMove_6_978_0 jL_isMove_6_886_0 jL_isMove_6_841_0 jL_isMove_6_827_0
  have e88 : jL_isMove_6_88_0 ni li mi mv nx al nc nl ki fi se th size on il ba kn ho vh vc vg p1 p2 = zAa vg vc p1 p2 := rfl
  have e114 : jL_isMove_6_114_0 ni li mi mv nx al nc nl ki fi se th size on il ba kn ho vh vc vg p1 p2 = zBb vg vc p1 p2 := rfl
  have e154 : jL_isMove_6_154_0 ni li mi mv nx al nc nl ki fi se th size on il ba kn ho vh vc vg p1 p2 = zWw vg vc p1 p2 := rfl
  have e13 : jL_isMove_6_13_0 ni li mi mv nx al nc nl ki fi se th size on il ba kn ho vh vc vg p1 p2 = zPL vg := rfl
  have e31 : jL_isMove_6_31_0 ni li mi mv nx al nc nl ki fi se th size on il ba kn ho vh vc vg p1 p2 = zST vg vc := rfl
  have e181 : jL_isMove_6_181_0 ni li mi mv nx al nc nl ki fi se th size on il ba kn ho vh vc vg p1 p2 = zSA vg vc p1 p2 := rfl
  have e50 : jL_isMove_6_50_0 ni li mi mv nx al nc nl ki fi se th size on il ba kn ho vh vc vg p1 p2 = zNE vg p2 := rfl
  simp only [e88, e114, e154, e13, e31, e181, e50]
  clear e88 e114 e154 e13 e31 e181 e50
  generalize zAa vg vc p1 p2 = a at aA aI ⊢
  generalize zBb vg vc p1 p2 = b at aB ⊢
  generalize zWw vg vc p1 p2 = w at aW ⊢
  generalize zSA vg vc p1 p2 = sa at aI ⊢
  generalize zST vg vc = st at aS ⊢
  have keep : ∀ n9 : Nat, xX7_give ni li mi mv nx al nc nl ki fi se th size on il ba kn ho a b w = n9 → ¬ n9 = 0 → (oL_does_13_ho ni li mi mv nx al nc nl ki fi se th size on il ba kn ho a b w 0 = ho ∧ oL_does_13_ni ni li mi mv nx al nc nl ki fi se th size on il ba kn ho a b w 0 = ni ∧ oL_does_13_mi ni li mi mv nx al nc nl ki fi se th size on il ba kn ho a b w 0 = mi ∧ oL_does_13_mv ni li mi mv nx al nc nl ki fi se th size on il ba kn ho a b w 0 = mv ∧ oL_does_13_nx ni li mi mv nx al nc nl ki fi se th size on il ba kn ho a b w 0 = nx ∧ oL_does_13_nc ni li mi mv nx al nc nl ki fi se th size on il ba kn ho a b w 0 = nc ∧ oL_does_13_nl ni li mi mv nx al nc nl ki fi se th size on il ba kn ho a b w 0 = nl) := by
    intro n9 q1 q2
    unfold oL_does_13_ho oL_does_13_ni oL_does_13_mi oL_does_13_mv oL_does_13_nx oL_does_13_nc oL_does_13_nl
    rw [q1]
    simp only [if_neg q2]
    exact ⟨trivial, trivial, trivial, trivial, trivial, trivial, trivial⟩
  rw [zN9, g9, zLI]
  have tr : zRc (N + 1) ni li mi mv nx al nc nl on il ba size ki fi se th kT hT kn ho kb0 hb0 gs le wi pr tp pt fr fb vk (upd vh 8 (b + (1 : Int32))) vc ve vq vg := ⟨⟨iC, iG, iN, iS, iK0, iK, iH0, iH⟩, ⟨kA, kB⟩, ⟨zJh_t hA (by decide) _, zJh_t2 hB (Or.inr (by decide)) _⟩, hc, ⟨hE, hTp⟩, hp, hg⟩
  by_cases v1 : vp_in a 6 ∧ vp_in w 4
  · obtain ⟨ra, rw_⟩ := v1
    have e1 : (if (6 : Int32) ≤ a then (0 : Int32) else (if (4 : Int32) ≤ w then 0 else 1)) = 1 := by rw [if_neg (znle ra rfl), if_neg (znle rw_ rfl)]
    simp only [e1, if_neg z10]
    have hlw := zin_lt rw_
    by_cases v2 : a = b
    · have xs : xX7_give ni li mi mv nx al nc nl ki fi se th size on il ba kn ho a b w = 2 := by
        unfold xX7_give
        rw [if_pos (zMk ra), if_pos (zMk aB), if_pos (zPk rw_), zUn2 v2, if_neg z2n]
      obtain ⟨k0, k1, k2, k3, k4, k5, k6⟩ := keep 2 xs z2n
      rw [k0, k1, k2, k3, k4, k5, k6]
      simp only [if_pos v2, if_true, zN8]
      refine ⟨h26, fun _ _ _ _ _ r => (by simp at r), fun _ _ _ _ => by unfold vp_in; decide, ?_, tr⟩
      unfold rL_does_13
      rw [xs, if_neg z2n, if_neg z21n, if_pos rfl, if_pos rfl]
    · simp only [if_neg v2, if_neg z10]
      by_cases v : ni = 1 ∧ ¬ rX7_isIn on a = 0 ∧ ¬ rX7_isIn on b = 0 ∧ ho w.toNatClampNeg = a
      · obtain ⟨q, v3, v4, v5⟩ := v
        have hpl : ¬ zPL vg = 0 := fun r => (aP.mp r) q
        have hsa : ¬ sa = 0 := fun r => (aI.mp r).elim (zvne ra rfl) v3
        have q0 : ¬ ni = 0 := by
          rw [q]
          exact z10
        rw [if_neg q0] at kB hB
        have hB' : vh (4 + w.toNatClampNeg) = ho w.toNatClampNeg + 1 := hB _ hlw
        have xs : xX7_give ni li mi mv nx al nc nl ki fi se th size on il ba kn ho a b w = 0 := by
          unfold xX7_give
          rw [if_pos (zMk ra), if_pos (zMk aB), if_pos (zPk rw_), if_pos (zUn0 v2), if_pos (zPL0 q), if_pos (zOn0 v3), if_pos (zOn0 v4), if_pos v5]
        have e5 : vh ((4 : Int32) + w).toNatClampNeg = a + 1 := by rw [zc4p rw_, hB', v5]
        simp only [if_neg hpl, if_neg hsa, if_neg v4, if_pos e5, if_neg z10]
        obtain ⟨n0, n1⟩ := iN q
        have hn : nx.toNatClampNeg < 12 := by
          have e := zcn n0
          omega
        obtain ⟨_, _, r2, r3, r4, r5, _⟩ := iC
        have ed : rX0_isJust ki fi se th size nx 1 a b w = (if st = ((((1 : Int32) + ((8 : Int32) * a)) + ((64 : Int32) * b)) + ((512 : Int32) * w)) then (1 : Int32) else (0 : Int32)) := by
          have z := zcd_inj (r2 _ hn) (r3 _ hn) (r4 _ hn) (r5 _ hn) (k' := 1) (by unfold vp_in; decide) ra aB rw_
          rw [aS q, zIJ n0 n1, if_neg (show ¬ (1 : Int32) = 2 by decide), if_neg (show ¬ (1 : Int32) = 3 by decide), if_neg (show ¬ (1 : Int32) = 4 by decide)]
          unfold jX0_isJust_50_0
          change _ = if zcd (ki nx.toNatClampNeg) (fi nx.toNatClampNeg) (se nx.toNatClampNeg) (th nx.toNatClampNeg) = zcd 1 a b w then (1 : Int32) else 0
          by_cases y1 : ki nx.toNatClampNeg = 1
          · by_cases y2 : fi nx.toNatClampNeg = a
            · by_cases y3 : se nx.toNatClampNeg = b
              · by_cases y4 : th nx.toNatClampNeg = w
                · rw [if_pos (z.mpr ⟨y1, y2, y3, y4⟩), if_pos y1, if_pos y2, if_pos y3, if_neg z10, if_pos y4]
                · rw [if_neg (fun r => y4 (z.mp r).2.2.2), if_pos y1, if_pos y2, if_pos y3, if_neg z10, if_neg y4]
              · rw [if_neg (fun r => y3 (z.mp r).2.2.1), if_pos y1, if_pos y2, if_neg y3, if_pos rfl]
            · rw [if_neg (fun r => y2 (z.mp r).2.1), if_pos y1, if_neg y2, if_pos rfl]
          · rw [if_neg (fun r => y1 (z.mp r).1), if_neg y1]
        generalize (if st = ((((1 : Int32) + ((8 : Int32) * a)) + ((64 : Int32) * b)) + ((512 : Int32) * w)) then (1 : Int32) else (0 : Int32)) = d at ed ⊢
        have hd : d = 0 ∨ d = 1 := by
          rw [← ed, zIJ n0 n1]
          repeat' split
          all_goals first | exact Or.inl rfl | exact Or.inr rfl
        obtain ⟨M1, M2⟩ := zMV ki fi se th hg q n0 n1 c1 hd
        have k : oL_does_13_ho ni li mi mv nx al nc nl ki fi se th size on il ba kn ho a b w 0 = upd ho w.toNatClampNeg b ∧ oL_does_13_ni ni li mi mv nx al nc nl ki fi se th size on il ba kn ho a b w 0 = oX7_endMove_ni ni li mi mv nx al nc nl ki fi se th size d ∧ oL_does_13_mi ni li mi mv nx al nc nl ki fi se th size on il ba kn ho a b w 0 = oX7_endMove_mi ni li mi mv nx al nc nl ki fi se th size d ∧ oL_does_13_mv ni li mi mv nx al nc nl ki fi se th size on il ba kn ho a b w 0 = oX7_endMove_mv ni li mi mv nx al nc nl ki fi se th size d ∧ oL_does_13_nx ni li mi mv nx al nc nl ki fi se th size on il ba kn ho a b w 0 = oX7_endMove_nx ni li mi mv nx al nc nl ki fi se th size d ∧ oL_does_13_nc ni li mi mv nx al nc nl ki fi se th size on il ba kn ho a b w 0 = oX7_endMove_nc ni li mi mv nx al nc nl ki fi se th size d ∧ oL_does_13_nl ni li mi mv nx al nc nl ki fi se th size on il ba kn ho a b w 0 = oX7_endMove_nl ni li mi mv nx al nc nl ki fi se th size d := by
          unfold oL_does_13_ho oL_does_13_ni oL_does_13_mi oL_does_13_mv oL_does_13_nx oL_does_13_nc oL_does_13_nl oX7_give_ho oX7_give_ni oX7_give_mi oX7_give_mv oX7_give_nx oX7_give_nc oX7_give_nl
          rw [xs, ed]
          exact ⟨rfl, rfl, rfl, rfl, rfl, rfl, rfl⟩
        obtain ⟨k0, k1, k2, k3, k4, k5, k6⟩ := k
        have i2 := yk_13_2 (li := li) (mi := mi) (mv := mv) (al := al) (nc := nc) (nl := nl) (on := on) (il := il) (ba := ba) (kn := kn) (ho := ho) a b w 0 ⟨c0, c1, r2, r3, r4, r5, by assumption⟩ iN
        have i7 := yk_13_7 (ni := ni) (li := li) (mi := mi) (mv := mv) (nx := nx) (al := al) (nc := nc) (nl := nl) (on := on) (il := il) (ba := ba) (size := size) (ki := ki) (fi := fi) (se := se) (th := th) (kn := kn) a b w 0 iH
        rw [k1, k4] at i2
        rw [k0] at i7
        rw [k0, k1, k2, k3, k4, k5, k6]
        refine ⟨h26, fun _ _ _ _ _ _ _ _ _ => zi4 rw_, fun _ _ _ _ => zi4 rw_, ?_, ⟨⟨c0, c1, r2, r3, r4, r5, by assumption⟩, iG, i2, iS, iK0, iK, iH0, i7⟩, ⟨kA, ?_⟩, ⟨?_, ?_⟩, hc, ⟨hE, hTp⟩, hp, M1⟩
        · unfold rL_does_13 rX7_give
          rw [xs, if_pos rfl, ed, M2]
          exact if_pos rfl
        · rw [if_neg (zEMn q)]
          exact kB
        · rw [zc4p rw_]
          exact zJh_t hA (by omega) _
        · rw [if_neg (zEMn q), zc4p rw_, zsh]
          exact zJh_upd hB
      · have xs : xX7_give ni li mi mv nx al nc nl ki fi se th size on il ba kn ho a b w = 3 := by
          unfold xX7_give
          rw [if_pos (zMk ra), if_pos (zMk aB), if_pos (zPk rw_), if_pos (zUn0 v2)]
          by_cases q : ni = 1
          · rw [if_pos (zPL0 q)]
            by_cases v3 : rX7_isIn on a = 0
            · rw [zOn3 v3, if_neg z3n]
            · rw [if_pos (zOn0 v3)]
              by_cases v4 : rX7_isIn on b = 0
              · rw [zOn3 v4, if_neg z3n]
              · rw [if_pos (zOn0 v4), if_neg (fun v5 => v ⟨q, v3, v4, v5⟩)]
          · rw [zPL3 q, if_neg z3n]
        have f0 : (if zPL vg = 0 then (0 : Int32) else (if sa = 0 then (0 : Int32) else (if rX7_isIn on b = 0 then (0 : Int32) else (if vh ((4 : Int32) + w).toNatClampNeg = (a + (1 : Int32)) then (1 : Int32) else (0 : Int32))))) = 0 := by
          by_cases q : ni = 1
          · rw [if_neg (fun r => (aP.mp r) q)]
            by_cases v3 : rX7_isIn on a = 0
            · rw [if_pos (aI.mpr (Or.inr v3))]
            · rw [if_neg (fun r => (aI.mp r).elim (zvne ra rfl) v3)]
              by_cases v4 : rX7_isIn on b = 0
              · rw [if_pos v4]
              · rw [if_neg v4]
                have q0 : ¬ ni = 0 := by
                  rw [q]
                  exact z10
                rw [if_neg q0] at hB
                have hB' : vh (4 + w.toNatClampNeg) = ho w.toNatClampNeg + 1 := hB _ hlw
                rw [zc4p rw_, hB', if_neg (fun r => v ⟨q, v3, v4, zp1i.mp r⟩)]
          · rw [if_pos (aP.mpr q)]
        obtain ⟨k0, k1, k2, k3, k4, k5, k6⟩ := keep 3 xs z3n
        rw [k0, k1, k2, k3, k4, k5, k6]
        simp only [f0, if_true, zN8]
        refine ⟨h26, fun _ _ _ _ _ _ _ _ _ => zi4 rw_, fun _ _ _ _ => by unfold vp_in; decide, ?_, tr⟩
        unfold rL_does_13
        rw [xs, if_neg z3n, if_neg z31n, if_neg z32n, if_pos rfl]
  · have e1 : (if (6 : Int32) ≤ a then (0 : Int32) else (if (4 : Int32) ≤ w then 0 else 1)) = 0 := by
      rcases aA with rfl | ra
      · rw [if_pos (by decide)]
      · rcases aW with rfl | rw_
        · rw [if_pos (show (4 : Int32) ≤ 4 by decide)]
          split <;> rfl
        · exact absurd ⟨ra, rw_⟩ v1
    have xs : xX7_give ni li mi mv nx al nc nl ki fi se th size on il ba kn ho a b w = 1 := by
      unfold xX7_give
      rcases aA with rfl | ra
      · rw [zM6, if_neg z1n]
      · rcases aW with rfl | rw_
        · rw [if_pos (zMk ra), if_pos (zMk aB), zP4, if_neg z1n]
        · exact absurd ⟨ra, rw_⟩ v1
    obtain ⟨k0, k1, k2, k3, k4, k5, k6⟩ := keep 1 xs z1n
    rw [k0, k1, k2, k3, k4, k5, k6]
    simp only [e1, if_true, zN8]
    refine ⟨h26, fun _ _ _ _ r => (by simp at r), fun _ _ _ _ => by unfold vp_in; decide, ?_, tr⟩
    unfold rL_does_13
    rw [xs, if_neg z1n, if_pos rfl, if_pos rfl]
set_option maxHeartbeats 2000000 in
theorem zT_m8 {N : Nat} {ni li mi mv nx al nc nl on il ba size : Int32} {ki fi se th kT hT kn ho kb0 hb0 : Nat → Int32} {gs : Int32} {le wi pr tp pt : Nat → Int32} {fr fb : Nat → Int64} {vk vh vc ve vq vg : Nat → Int32} (h : zRc N ni li mi mv nx al nc nl on il ba size ki fi se th kT hT kn ho kb0 hb0 gs le wi pr tp pt fr fb vk vh vc ve vq vg) (p1 : Int32) (p2 : Int32) (h1 : 0 ≤ p1.toInt) (h2 : 0 ≤ p2.toInt) : (¬ (jL_isMove_8_13_0 ni li mi mv nx al nc nl ki fi se th size on il ba kn ho vh vc vg p1 p2) = 0 → vp_in (vg ((7 : Int32)).toNatClampNeg) 13) ∧ ((3 : Int32) ≤ (8 : Int32) → ¬ (8 : Int32) = (3 : Int32) → (6 : Int32) ≤ (8 : Int32) → (8 : Int32) ≤ (8 : Int32) → (8 : Int32) = (8 : Int32) → ¬ (jL_isMove_8_1020_0 ni li mi mv nx al nc nl ki fi se th size on il ba kn ho vh vc vg p1 p2) = 0 → ¬ (jL_isMove_8_13_0 ni li mi mv nx al nc nl ki fi se th size on il ba kn ho vh vc vg p1 p2) = 0 → ¬ (jL_isMove_8_181_0 ni li mi mv nx al nc nl ki fi se th size on il ba kn ho vh vc vg p1 p2) = 0 → vp_in ((4 : Int32) + (jL_isMove_8_154_0 ni li mi mv nx al nc nl ki fi se th size on il ba kn ho vh vc vg p1 p2)) 9) ∧ ((3 : Int32) ≤ (8 : Int32) → ¬ (8 : Int32) = (3 : Int32) → (6 : Int32) ≤ (8 : Int32) → (8 : Int32) ≤ (8 : Int32) → (8 : Int32) = (8 : Int32) → vp_in (jL_isMove_8_1068_0 ni li mi mv nx al nc nl ki fi se th size on il ba kn ho vh vc vg p1 p2) 9) ∧ rL_isMove_8 ni li mi mv nx al nc nl ki fi se th size on il ba kn ho vh vc vg p1 p2 = 1 ∧ zRc (N + 1) (oL_isMove_8_ni ni li mi mv nx al nc nl ki fi se th size on il ba kn ho vh vc vg p1 p2) li (oL_isMove_8_mi ni li mi mv nx al nc nl ki fi se th size on il ba kn ho vh vc vg p1 p2) (oL_isMove_8_mv ni li mi mv nx al nc nl ki fi se th size on il ba kn ho vh vc vg p1 p2) (oL_isMove_8_nx ni li mi mv nx al nc nl ki fi se th size on il ba kn ho vh vc vg p1 p2) al (oL_isMove_8_nc ni li mi mv nx al nc nl ki fi se th size on il ba kn ho vh vc vg p1 p2) (oL_isMove_8_nl ni li mi mv nx al nc nl ki fi se th size on il ba kn ho vh vc vg p1 p2) on il ba size ki fi se th kT hT kn (oL_isMove_8_ho ni li mi mv nx al nc nl ki fi se th size on il ba kn ho vh vc vg p1 p2) kb0 hb0 gs le wi pr tp pt fr fb vk (oL_isMove_8_vh ni li mi mv nx al nc nl ki fi se th size on il ba kn ho vh vc vg p1 p2) vc ve vq (oL_isMove_8_vg ni li mi mv nx al nc nl ki fi se th size on il ba kn ho vh vc vg p1 p2) := by
  obtain ⟨⟨iC, iG, iN, iS, iK0, iK, iH0, iH⟩, ⟨kA, kB⟩, ⟨hA, hB⟩, hc, ⟨hE, hTp⟩, hp, hg⟩ := h
  have hTp := zJt_le hTp (Nat.le_succ N)
  have hg' := hg
  obtain ⟨g0, g1, g2, g3, g4, g5, g6, g7, g8, g9, g10, g11, g12⟩ := hg'
  obtain ⟨aA, aB, aW, aP, aS, aI⟩ := zArgs hg hc iC iN (p1 := p1) (p2 := p2) h1
  have c0 := iC.1
  have c1 := iC.2.1
  have h26 : ¬ zPL vg = 0 → vp_in (vg ((7 : Int32)).toNatClampNeg) 13 := by
    intro q
    have r : ni = 1 := Classical.byContradiction (fun r => q (aP.mpr r))
    obtain ⟨n0, n1⟩ := iN r
    rw [zN7, g7]
    exact zin_b n0 (by omega)
  have R0 : zRc (N + 1) ni li mi mv nx al nc nl on il ba size ki fi se th kT hT kn ho kb0 hb0 gs le wi pr tp pt fr fb vk vh vc ve vq vg := ⟨⟨iC, iG, iN, iS, iK0, iK, iH0, iH⟩, ⟨kA, kB⟩, ⟨hA, hB⟩, hc, ⟨hE, hTp⟩, hp, hg⟩
  unfold rL_isMove_8 oL_isMove_8_ho oL_isMove_8_ni oL_isMove_8_mi oL_isMove_8_mv oL_isMove_8_nx oL_isMove_8_nc oL_isMove_8_nl oL_isMove_8_vh oL_isMove_8_vg jL_isMove_8_1111_0 jL_isMove_8_1111_1 jL_isMove_8_1068_0 jL_isMove_8_1051_0 jL_isMove_8_1020_0
  have e88 : jL_isMove_8_88_0 ni li mi mv nx al nc nl ki fi se th size on il ba kn ho vh vc vg p1 p2 = zAa vg vc p1 p2 := rfl
  have e114 : jL_isMove_8_114_0 ni li mi mv nx al nc nl ki fi se th size on il ba kn ho vh vc vg p1 p2 = zBb vg vc p1 p2 := rfl
  have e154 : jL_isMove_8_154_0 ni li mi mv nx al nc nl ki fi se th size on il ba kn ho vh vc vg p1 p2 = zWw vg vc p1 p2 := rfl
  have e13 : jL_isMove_8_13_0 ni li mi mv nx al nc nl ki fi se th size on il ba kn ho vh vc vg p1 p2 = zPL vg := rfl
  have e31 : jL_isMove_8_31_0 ni li mi mv nx al nc nl ki fi se th size on il ba kn ho vh vc vg p1 p2 = zST vg vc := rfl
  have e181 : jL_isMove_8_181_0 ni li mi mv nx al nc nl ki fi se th size on il ba kn ho vh vc vg p1 p2 = zSA vg vc p1 p2 := rfl
  have e50 : jL_isMove_8_50_0 ni li mi mv nx al nc nl ki fi se th size on il ba kn ho vh vc vg p1 p2 = zNE vg p2 := rfl
  simp only [e88, e114, e154, e13, e31, e181, e50]
  clear e88 e114 e154 e13 e31 e181 e50
  generalize zAa vg vc p1 p2 = a at aA aI ⊢
  generalize zBb vg vc p1 p2 = b at aB ⊢
  generalize zWw vg vc p1 p2 = w at aW ⊢
  generalize zSA vg vc p1 p2 = sa at aI ⊢
  generalize zST vg vc = st at aS ⊢
  have keep : ∀ n9 : Nat, xX7_take ni li mi mv nx al nc nl ki fi se th size on il ba kn ho a w = n9 → ¬ n9 = 0 → (oL_does_14_ho ni li mi mv nx al nc nl ki fi se th size on il ba kn ho a w 0 0 = ho ∧ oL_does_14_ni ni li mi mv nx al nc nl ki fi se th size on il ba kn ho a w 0 0 = ni ∧ oL_does_14_mi ni li mi mv nx al nc nl ki fi se th size on il ba kn ho a w 0 0 = mi ∧ oL_does_14_mv ni li mi mv nx al nc nl ki fi se th size on il ba kn ho a w 0 0 = mv ∧ oL_does_14_nx ni li mi mv nx al nc nl ki fi se th size on il ba kn ho a w 0 0 = nx ∧ oL_does_14_nc ni li mi mv nx al nc nl ki fi se th size on il ba kn ho a w 0 0 = nc ∧ oL_does_14_nl ni li mi mv nx al nc nl ki fi se th size on il ba kn ho a w 0 0 = nl) := by
    intro n9 q1 q2
    unfold oL_does_14_ho oL_does_14_ni oL_does_14_mi oL_does_14_mv oL_does_14_nx oL_does_14_nc oL_does_14_nl
    rw [q1]
    simp only [if_neg q2]
    exact ⟨trivial, trivial, trivial, trivial, trivial, trivial, trivial⟩
  have tr : zRc (N + 1) ni li mi mv nx al nc nl on il ba size ki fi se th kT hT kn ho kb0 hb0 gs le wi pr tp pt fr fb vk (upd vh 8 (a + (1 : Int32))) vc ve vq vg := ⟨⟨iC, iG, iN, iS, iK0, iK, iH0, iH⟩, ⟨kA, kB⟩, ⟨zJh_t hA (by decide) _, zJh_t2 hB (Or.inr (by decide)) _⟩, hc, ⟨hE, hTp⟩, hp, hg⟩
  by_cases v1 : vp_in a 6 ∧ vp_in w 4
  · obtain ⟨ra, rw_⟩ := v1
    have e1 : (if (6 : Int32) ≤ a then (0 : Int32) else (if (4 : Int32) ≤ w then 0 else 1)) = 1 := by rw [if_neg (znle ra rfl), if_neg (znle rw_ rfl)]
    simp only [e1, if_neg z10]
    have hlw := zin_lt rw_
    by_cases v : ni = 1 ∧ ¬ rX7_isIn on a = 0 ∧ ho w.toNatClampNeg = -1
    · obtain ⟨q, v3, v5⟩ := v
      have hpl : ¬ zPL vg = 0 := fun r => (aP.mp r) q
      have hsa : ¬ sa = 0 := fun r => (aI.mp r).elim (zvne ra rfl) v3
      have q0 : ¬ ni = 0 := by
        rw [q]
        exact z10
      rw [if_neg q0] at kB hB
      have hB' : vh (4 + w.toNatClampNeg) = ho w.toNatClampNeg + 1 := hB _ hlw
      have xs : xX7_take ni li mi mv nx al nc nl ki fi se th size on il ba kn ho a w = 0 := by
        unfold xX7_take
        rw [if_pos (zMk ra), if_pos (zPk rw_), if_pos (zPL0 q), if_pos (zOn0 v3), if_pos v5]
      have e5 : vh ((4 : Int32) + w).toNatClampNeg = 0 := by
        rw [zc4p rw_, hB', v5]
        decide
      simp only [if_neg hpl, if_neg hsa, if_pos e5, if_neg z10]
      obtain ⟨n0, n1⟩ := iN q
      obtain ⟨M1, M2⟩ := zMV ki fi se th hg q n0 n1 c1 (d := 0) (Or.inl rfl)
      have k : oL_does_14_ho ni li mi mv nx al nc nl ki fi se th size on il ba kn ho a w 0 0 = upd ho w.toNatClampNeg a ∧ oL_does_14_ni ni li mi mv nx al nc nl ki fi se th size on il ba kn ho a w 0 0 = oX7_endMove_ni ni li mi mv nx al nc nl ki fi se th size 0 ∧ oL_does_14_mi ni li mi mv nx al nc nl ki fi se th size on il ba kn ho a w 0 0 = oX7_endMove_mi ni li mi mv nx al nc nl ki fi se th size 0 ∧ oL_does_14_mv ni li mi mv nx al nc nl ki fi se th size on il ba kn ho a w 0 0 = oX7_endMove_mv ni li mi mv nx al nc nl ki fi se th size 0 ∧ oL_does_14_nx ni li mi mv nx al nc nl ki fi se th size on il ba kn ho a w 0 0 = oX7_endMove_nx ni li mi mv nx al nc nl ki fi se th size 0 ∧ oL_does_14_nc ni li mi mv nx al nc nl ki fi se th size on il ba kn ho a w 0 0 = oX7_endMove_nc ni li mi mv nx al nc nl ki fi se th size 0 ∧ oL_does_14_nl ni li mi mv nx al nc nl ki fi se th size on il ba kn ho a w 0 0 = oX7_endMove_nl ni li mi mv nx al nc nl ki fi se th size 0 := by
        unfold oL_does_14_ho oL_does_14_ni oL_does_14_mi oL_does_14_mv oL_does_14_nx oL_does_14_nc oL_does_14_nl
        rw [xs]
        exact ⟨rfl, rfl, rfl, rfl, rfl, rfl, rfl⟩
      obtain ⟨k0, k1, k2, k3, k4, k5, k6⟩ := k
      have i2 := yk_14_2 (li := li) (mi := mi) (mv := mv) (al := al) (nc := nc) (nl := nl) (on := on) (il := il) (ba := ba) (kn := kn) (ho := ho) a w 0 0 iC iN
      have i7 := yk_14_7 (ni := ni) (li := li) (mi := mi) (mv := mv) (nx := nx) (al := al) (nc := nc) (nl := nl) (on := on) (il := il) (ba := ba) (size := size) (ki := ki) (fi := fi) (se := se) (th := th) (kn := kn) a w 0 0 iH
      rw [k1, k4] at i2
      rw [k0] at i7
      rw [k0, k1, k2, k3, k4, k5, k6]
      refine ⟨h26, fun _ _ _ _ _ _ _ _ => zi4 rw_, fun _ _ _ _ _ => zi4 rw_, ?_, ⟨iC, iG, i2, iS, iK0, iK, iH0, i7⟩, ⟨kA, ?_⟩, ⟨?_, ?_⟩, hc, ⟨hE, hTp⟩, hp, M1⟩
      · unfold rL_does_14 rX7_take
        rw [xs, if_pos rfl, M2]
        exact if_pos rfl
      · rw [if_neg (zEMn q)]
        exact kB
      · rw [zc4p rw_]
        exact zJh_t hA (by omega) _
      · rw [if_neg (zEMn q), zc4p rw_, zsh]
        exact zJh_upd hB
    · have xs : xX7_take ni li mi mv nx al nc nl ki fi se th size on il ba kn ho a w = 3 := by
        unfold xX7_take
        rw [if_pos (zMk ra), if_pos (zPk rw_)]
        by_cases q : ni = 1
        · rw [if_pos (zPL0 q)]
          by_cases v3 : rX7_isIn on a = 0
          · rw [zOn3 v3, if_neg z3n]
          · rw [if_pos (zOn0 v3), if_neg (fun v5 => v ⟨q, v3, v5⟩)]
        · rw [zPL3 q, if_neg z3n]
      have f0 : (if zPL vg = 0 then (0 : Int32) else (if sa = 0 then (0 : Int32) else (if vh ((4 : Int32) + w).toNatClampNeg = 0 then (1 : Int32) else (0 : Int32)))) = 0 := by
        by_cases q : ni = 1
        · rw [if_neg (fun r => (aP.mp r) q)]
          by_cases v3 : rX7_isIn on a = 0
          · rw [if_pos (aI.mpr (Or.inr v3))]
          · rw [if_neg (fun r => (aI.mp r).elim (zvne ra rfl) v3)]
            have q0 : ¬ ni = 0 := by
              rw [q]
              exact z10
            rw [if_neg q0] at hB
            have hB' : vh (4 + w.toNatClampNeg) = ho w.toNatClampNeg + 1 := hB _ hlw
            rw [zc4p rw_, hB', if_neg (fun r => v ⟨q, v3, (zmp1 (iH.1 _ hlw)).2.1.mp r⟩)]
        · rw [if_pos (aP.mpr q)]
      obtain ⟨k0, k1, k2, k3, k4, k5, k6⟩ := keep 3 xs z3n
      rw [k0, k1, k2, k3, k4, k5, k6]
      simp only [f0, if_true, zN8]
      refine ⟨h26, fun _ _ _ _ _ _ _ _ => zi4 rw_, fun _ _ _ _ _ => by unfold vp_in; decide, ?_, tr⟩
      unfold rL_does_14
      rw [xs, if_neg z3n, if_neg z31n, if_pos rfl]
  · have e1 : (if (6 : Int32) ≤ a then (0 : Int32) else (if (4 : Int32) ≤ w then 0 else 1)) = 0 := by
      rcases aA with rfl | ra
      · rw [if_pos (by decide)]
      · rcases aW with rfl | rw_
        · rw [if_pos (show (4 : Int32) ≤ 4 by decide)]
          split <;> rfl
        · exact absurd ⟨ra, rw_⟩ v1
    have xs : xX7_take ni li mi mv nx al nc nl ki fi se th size on il ba kn ho a w = 1 := by
      unfold xX7_take
      rcases aA with rfl | ra
      · rw [zM6, if_neg z1n]
      · rcases aW with rfl | rw_
        · rw [if_pos (zMk ra), zP4, if_neg z1n]
        · exact absurd ⟨ra, rw_⟩ v1
    obtain ⟨k0, k1, k2, k3, k4, k5, k6⟩ := keep 1 xs z1n
    rw [k0, k1, k2, k3, k4, k5, k6]
    simp only [e1, if_true, zN8]
    refine ⟨h26, fun _ _ _ _ _ r => (by simp at r), fun _ _ _ _ _ => by unfold vp_in; decide, ?_, tr⟩
    unfold rL_does_14
    rw [xs, if_neg z1n, if_pos rfl, if_pos rfl]
