/-! moves: greet -/
set_option maxHeartbeats 2000000 in
theorem zT_m9 {N : Nat} {ni li mi mv nx al nc nl on il ba size : Int32} {ki fi se th kT hT kn ho kb0 hb0 : Nat → Int32} {gs : Int32} {le wi pr tp pt : Nat → Int32} {fr fb : Nat → Int64} {vk vh vc ve vq vg : Nat → Int32} (h : zRc N ni li mi mv nx al nc nl on il ba size ki fi se th kT hT kn ho kb0 hb0 gs le wi pr tp pt fr fb vk vh vc ve vq vg) (p1 : Int32) (p2 : Int32) (h1 : 0 ≤ p1.toInt) (h2 : 0 ≤ p2.toInt) : (¬ (jL_isMove_9_13_0 ni li mi mv nx al nc nl ki fi se th size on il ba vc vg p1 p2) = 0 → vp_in (vg ((7 : Int32)).toNatClampNeg) 13) ∧ rL_isMove_9 ni li mi mv nx al nc nl ki fi se th size on il ba vc vg p1 p2 = 1 ∧ zRc (N + 1) (oL_isMove_9_ni ni li mi mv nx al nc nl ki fi se th size on il ba vc vg p1 p2) li (oL_isMove_9_mi ni li mi mv nx al nc nl ki fi se th size on il ba vc vg p1 p2) (oL_isMove_9_mv ni li mi mv nx al nc nl ki fi se th size on il ba vc vg p1 p2) (oL_isMove_9_nx ni li mi mv nx al nc nl ki fi se th size on il ba vc vg p1 p2) al (oL_isMove_9_nc ni li mi mv nx al nc nl ki fi se th size on il ba vc vg p1 p2) (oL_isMove_9_nl ni li mi mv nx al nc nl ki fi se th size on il ba vc vg p1 p2) on il ba size ki fi se th kT hT kn ho kb0 hb0 gs le wi pr tp pt fr fb vk vh vc ve vq (oL_isMove_9_vg ni li mi mv nx al nc nl ki fi se th size on il ba vc vg p1 p2) := by
  obtain ⟨⟨iC, iG, iN, iS, iK0, iK, iH0, iH⟩, ⟨kA, kB⟩, ⟨hA, hB⟩, hc, ⟨hE, hTp⟩, hp, hg⟩ := h
  have hTp := zJt_le hTp (Nat.le_succ N)
  have hg' := hg
  obtain ⟨g0, g1, g2, g3, g4, g5, g6, g7, g8, g9, g10, g11, g12⟩ := hg'
  obtain ⟨aA, aB, aW, aP, aS, aI⟩ := zArgs hg hc iC iN (p1 := p1) (p2 := p2) h1
  have c0 := iC.1
  have c1 := iC.2.1
  have h26 : ¬ zPL vg = 0 → vp_in (vg ((7 : Int32)).toNatClampNeg) 13 := by
    intro q
    have r : ni = 1 := Classical.byContradiction (fun r => q (aP.mpr r))
    obtain ⟨n0, n1⟩ := iN r
    rw [zN7, g7]
    exact zin_b n0 (by omega)
  have R0 : zRc (N + 1) ni li mi mv nx al nc nl on il ba size ki fi se th kT hT kn ho kb0 hb0 gs le wi pr tp pt fr fb vk vh vc ve vq vg := ⟨⟨iC, iG, iN, iS, iK0, iK, iH0, iH⟩, ⟨kA, kB⟩, ⟨hA, hB⟩, hc, ⟨hE, hTp⟩, hp, hg⟩
  unfold rL_isMove_9 oL_isMove_9_ni oL_isMove_9_mi oL_isMove_9_mv oL_isMove_9_nx oL_isMove_9_nc oL_isMove_9_nl oL_isMove_9_vg jL_isMove_9_1314_0 jL_isMove_9_1314_1 jL_isMove_9_1261_0 jL_isMove_9_1173_0 jL_isMove_9_1207_0 jL_isMove_9_1191_0 jL_isMove_9_1139_0
  have e88 : jL_isMove_9_88_0 ni li mi mv nx al nc nl ki fi se th size on il ba vc vg p1 p2 = zAa vg vc p1 p2 := rfl
  have e114 : jL_isMove_9_114_0 ni li mi mv nx al nc nl ki fi se th size on il ba vc vg p1 p2 = zBb vg vc p1 p2 := rfl
  have e154 : jL_isMove_9_154_0 ni li mi mv nx al nc nl ki fi se th size on il ba vc vg p1 p2 = zWw vg vc p1 p2 := rfl
  have e13 : jL_isMove_9_13_0 ni li mi mv nx al nc nl ki fi se th size on il ba vc vg p1 p2 = zPL vg := rfl
  have e31 : jL_isMove_9_31_0 ni li mi mv nx al nc nl ki fi se th size on il ba vc vg p1 p2 = zST vg vc := rfl
  have e181 : jL_isMove_9_181_0 ni li mi mv nx al nc nl ki fi se th size on il ba vc vg p1 p2 = zSA vg vc p1 p2 := rfl
  have e50 : jL_isMove_9_50_0 ni li mi mv nx al nc nl ki fi se th size on il ba vc vg p1 p2 = zNE vg p2 := rfl
  simp only [e88, e114, e154, e13, e31, e181, e50]
  clear e88 e114 e154 e13 e31 e181 e50
  generalize zAa vg vc p1 p2 = a at aA aI ⊢
  generalize zBb vg vc p1 p2 = b at aB ⊢
  generalize zWw vg vc p1 p2 = w at aW ⊢
  generalize zSA vg vc p1 p2 = sa at aI ⊢
  generalize zST vg vc = st at aS ⊢
  refine ⟨h26, ?_⟩
  rw [zN9, g9, zLI]
  generalize hx : (if zRem (p2 / (4 : Int32)) (2 : Int32) = 0 then a else b) = x
  generalize hy : (if x = a then b else a) = y
  have hxy : (x = a ∧ y = b) ∨ (x = b ∧ y = a) := by
    rw [← hy]
    by_cases z : x = a
    · rw [if_pos z]
      exact Or.inl ⟨z, rfl⟩
    · rw [if_neg z]
      refine Or.inr ⟨?_, rfl⟩
      by_cases t : zRem (p2 / (4 : Int32)) (2 : Int32) = 0
      · rw [if_pos t] at hx
        exact absurd hx.symm z
      · rw [if_neg t] at hx
        exact hx.symm
  clear hx hy
  have keep : ∀ n9 : Nat, xX7_greet ni li mi mv nx al nc nl ki fi se th size on il ba x y = n9 → ¬ n9 = 0 → (oL_does_15_ni ni li mi mv nx al nc nl ki fi se th size on il ba x y 0 0 = ni ∧ oL_does_15_mi ni li mi mv nx al nc nl ki fi se th size on il ba x y 0 0 = mi ∧ oL_does_15_mv ni li mi mv nx al nc nl ki fi se th size on il ba x y 0 0 = mv ∧ oL_does_15_nx ni li mi mv nx al nc nl ki fi se th size on il ba x y 0 0 = nx ∧ oL_does_15_nc ni li mi mv nx al nc nl ki fi se th size on il ba x y 0 0 = nc ∧ oL_does_15_nl ni li mi mv nx al nc nl ki fi se th size on il ba x y 0 0 = nl) := by
    intro n9 q1 q2
    unfold oL_does_15_ni oL_does_15_mi oL_does_15_mv oL_does_15_nx oL_does_15_nc oL_does_15_nl
    rw [q1]
    simp only [if_neg q2]
    exact ⟨trivial, trivial, trivial, trivial, trivial, trivial⟩
  have xg : xX7_greet ni li mi mv nx al nc nl ki fi se th size on il ba x y = (if a = 6 then 1 else (if a = b then 2 else (if ni = 1 then (if rX7_isIn on a = 0 then 3 else (if rX7_isIn on b = 0 then 3 else 0)) else 3))) := by
    unfold xX7_greet
    rcases aA with rfl | ra
    · rcases hxy with ⟨rfl, rfl⟩ | ⟨rfl, rfl⟩
      · rw [zM6, if_neg z1n, if_pos rfl]
      · rw [if_pos (zMk aB), zM6, if_neg z1n, if_pos rfl]
    · rw [if_neg (zvne ra rfl)]
      have rx : vp_in x 6 := by
        rcases hxy with ⟨rfl, _⟩ | ⟨rfl, _⟩
        · exact ra
        · exact aB
      have ry : vp_in y 6 := by
        rcases hxy with ⟨_, rfl⟩ | ⟨_, rfl⟩
        · exact aB
        · exact ra
      rw [if_pos (zMk rx), if_pos (zMk ry)]
      by_cases v2 : a = b
      · rw [if_pos v2, zUn2 (by
          rcases hxy with ⟨e1, e2⟩ | ⟨e1, e2⟩
          · rw [e1, e2, v2]
          · rw [e1, e2, v2]), if_neg z2n]
      · rw [if_neg v2, if_pos (zUn0 (fun r => by
          rcases hxy with ⟨e1, e2⟩ | ⟨e1, e2⟩
          · exact v2 (by rw [← e1, ← e2, r])
          · exact v2 (by rw [← e1, ← e2, r])))]
        by_cases q : ni = 1
        · rw [if_pos q, if_pos (zPL0 q)]
          rcases hxy with ⟨rfl, rfl⟩ | ⟨rfl, rfl⟩
          · by_cases v3 : rX7_isIn on x = 0
            · rw [zOn3 v3, if_neg z3n, if_pos v3]
            · rw [if_pos (zOn0 v3), if_neg v3]
              by_cases v4 : rX7_isIn on y = 0
              · rw [zOn3 v4, if_neg z3n, if_pos v4]
              · rw [if_pos (zOn0 v4), if_neg v4]
          · by_cases v3 : rX7_isIn on x = 0
            · rw [zOn3 v3, if_neg z3n, if_pos v3]
              split <;> rfl
            · rw [if_pos (zOn0 v3), if_neg v3]
              by_cases v4 : rX7_isIn on y = 0
              · rw [zOn3 v4, if_neg z3n, if_pos v4]
              · rw [if_pos (zOn0 v4), if_neg v4]
        · rw [if_neg q, zPL3 q, if_neg z3n]
  by_cases v0 : a = 6
  · rw [if_pos v0] at xg
    obtain ⟨k0, k1, k2, k3, k4, k5⟩ := keep 1 xg z1n
    rw [k0, k1, k2, k3, k4, k5]
    simp only [if_pos v0]
    refine ⟨?_, R0⟩
    unfold rL_does_15
    rw [xg, if_neg z1n, if_pos rfl, if_pos rfl]
  · have ra := aA.resolve_left v0
    rw [if_neg v0] at xg
    by_cases v2 : a = b
    · rw [if_pos v2] at xg
      obtain ⟨k0, k1, k2, k3, k4, k5⟩ := keep 2 xg z2n
      rw [k0, k1, k2, k3, k4, k5]
      simp only [if_neg v0, if_pos v2, if_true]
      refine ⟨?_, R0⟩
      unfold rL_does_15
      rw [xg, if_neg z2n, if_neg z21n, if_pos rfl, if_pos rfl]
    · rw [if_neg v2] at xg
      by_cases v : ni = 1 ∧ ¬ rX7_isIn on a = 0 ∧ ¬ rX7_isIn on b = 0
      · obtain ⟨q, v3, v4⟩ := v
        rw [if_pos q, if_neg v3, if_neg v4] at xg
        have hpl : ¬ zPL vg = 0 := fun r => (aP.mp r) q
        have hsa : ¬ sa = 0 := fun r => (aI.mp r).elim (zvne ra rfl) v3
        have q0 : ¬ ni = 0 := by
          rw [q]
          exact z10
        rw [if_neg q0] at kB hB
        simp only [if_neg v0, if_neg v2, if_neg z10, if_neg (znle ra (c := 6) rfl), if_neg hpl, if_neg hsa, if_neg v4]
        obtain ⟨n0, n1⟩ := iN q
        have hn : nx.toNatClampNeg < 12 := by
          have e := zcn n0
          omega
        obtain ⟨_, _, r2, r3, r4, r5, _⟩ := iC
        have ed : rX0_isJust ki fi se th size nx 4 x y (-1) = (if zRem st (8 : Int32) = (4 : Int32) then (if zRem (st / (8 : Int32)) (64 : Int32) = (a + ((8 : Int32) * b)) then (1 : Int32) else (if zRem (st / (8 : Int32)) (64 : Int32) = (b + ((8 : Int32) * a)) then (1 : Int32) else (0 : Int32))) else (0 : Int32)) := by
          have z := zcd_ab (r2 _ hn) (r3 _ hn) (r4 _ hn) (r5 _ hn)
          rw [← aS q] at z
          have f1 := vp_in_iff.mp (r3 _ hn)
          have f2 := vp_in_iff.mp (r4 _ hn)
          have f3 := vp_in_iff.mp ra
          have f4 := vp_in_iff.mp aB
          have key : ∀ u v : Int32, vp_in u 6 → vp_in v 6 → (zRem (st / (8 : Int32)) (64 : Int32) = (u + ((8 : Int32) * v)) ↔ (fi nx.toNatClampNeg = u ∧ se nx.toNatClampNeg = v)) := by
            intro u v hu hv
            have f5 := vp_in_iff.mp hu
            have f6 := vp_in_iff.mp hv
            have e2 := zmK (k := 8) (n := 8) (b := v) rfl (by omega) (by omega)
            have e3 := zaT (a := u) (b := (8 : Int32) * v) (by omega) (by omega)
            constructor
            · intro h
              rw [h] at z
              exact ⟨Int32.toInt_inj.mp (by omega), Int32.toInt_inj.mp (by omega)⟩
            · rintro ⟨h1, h2⟩
              apply Int32.toInt_inj.mp
              rw [z, e3, e2, h1, h2]
          have k1 := key a b ra aB
          have k2 := key b a aB ra
          have e8 : zRem st (8 : Int32) = ki nx.toNatClampNeg := by rw [aS q, zcd_k (r2 _ hn) (r3 _ hn) (r4 _ hn) (r5 _ hn)]
          rw [e8, zIJ n0 n1, if_neg (show ¬ (4 : Int32) = 2 by decide), if_neg (show ¬ (4 : Int32) = 3 by decide), if_pos (show (4 : Int32) = 4 from rfl)]
          unfold jX0_isJust_50_0
          by_cases y1 : ki nx.toNatClampNeg = 4
          · rw [if_pos y1, if_pos y1]
            by_cases w1 : fi nx.toNatClampNeg = a ∧ se nx.toNatClampNeg = b
            · rw [if_pos (k1.mpr w1)]
              obtain ⟨w2, w3⟩ := w1
              rcases hxy with ⟨rfl, rfl⟩ | ⟨rfl, rfl⟩
              · rw [if_pos w2, if_pos w3, if_neg z10]
              · rw [if_neg (fun r => v2 (w2.symm.trans r)), if_pos rfl, if_pos w2, if_pos w3]
            · rw [if_neg (fun r => w1 (k1.mp r))]
              by_cases w4 : fi nx.toNatClampNeg = b ∧ se nx.toNatClampNeg = a
              · rw [if_pos (k2.mpr w4)]
                obtain ⟨w2, w3⟩ := w4
                rcases hxy with ⟨rfl, rfl⟩ | ⟨rfl, rfl⟩
                · rw [if_neg (fun (r : fi nx.toNatClampNeg = x) => v2 (r.symm.trans w2)), if_pos rfl, if_pos w2, if_pos w3]
                · rw [if_pos w2, if_pos w3, if_neg z10]
              · rw [if_neg (fun r => w4 (k2.mp r))]
                have n1 : ∀ u v : Int32, ¬ (fi nx.toNatClampNeg = u ∧ se nx.toNatClampNeg = v) → (if fi nx.toNatClampNeg = u then (if se nx.toNatClampNeg = v then (1 : Int32) else 0) else 0) = 0 := by
                  intro u v h
                  by_cases h1 : fi nx.toNatClampNeg = u
                  · rw [if_pos h1, if_neg (fun h2 => h ⟨h1, h2⟩)]
                  · rw [if_neg h1]
                rcases hxy with ⟨rfl, rfl⟩ | ⟨rfl, rfl⟩
                · rw [n1 _ _ w1, if_pos rfl, n1 _ _ w4]
                · rw [n1 _ _ w4, if_pos rfl, n1 _ _ w1]
          · rw [if_neg y1, if_neg y1]
        generalize (if zRem st (8 : Int32) = (4 : Int32) then (if zRem (st / (8 : Int32)) (64 : Int32) = (a + ((8 : Int32) * b)) then (1 : Int32) else (if zRem (st / (8 : Int32)) (64 : Int32) = (b + ((8 : Int32) * a)) then (1 : Int32) else (0 : Int32))) else (0 : Int32)) = d at ed ⊢
        have hd : d = 0 ∨ d = 1 := by
          rw [← ed, zIJ n0 n1]
          repeat' split
          all_goals first | exact Or.inl rfl | exact Or.inr rfl
        obtain ⟨M1, M2⟩ := zMV ki fi se th hg q n0 n1 c1 hd
        have k : oL_does_15_ni ni li mi mv nx al nc nl ki fi se th size on il ba x y 0 0 = oX7_endMove_ni ni li mi mv nx al nc nl ki fi se th size d ∧ oL_does_15_mi ni li mi mv nx al nc nl ki fi se th size on il ba x y 0 0 = oX7_endMove_mi ni li mi mv nx al nc nl ki fi se th size d ∧ oL_does_15_mv ni li mi mv nx al nc nl ki fi se th size on il ba x y 0 0 = oX7_endMove_mv ni li mi mv nx al nc nl ki fi se th size d ∧ oL_does_15_nx ni li mi mv nx al nc nl ki fi se th size on il ba x y 0 0 = oX7_endMove_nx ni li mi mv nx al nc nl ki fi se th size d ∧ oL_does_15_nc ni li mi mv nx al nc nl ki fi se th size on il ba x y 0 0 = oX7_endMove_nc ni li mi mv nx al nc nl ki fi se th size d ∧ oL_does_15_nl ni li mi mv nx al nc nl ki fi se th size on il ba x y 0 0 = oX7_endMove_nl ni li mi mv nx al nc nl ki fi se th size d := by
          unfold oL_does_15_ni oL_does_15_mi oL_does_15_mv oL_does_15_nx oL_does_15_nc oL_does_15_nl oX7_greet_ni oX7_greet_mi oX7_greet_mv oX7_greet_nx oX7_greet_nc oX7_greet_nl
          rw [xg, ed]
          exact ⟨rfl, rfl, rfl, rfl, rfl, rfl⟩
        obtain ⟨k0, k1, k2, k3, k4, k5⟩ := k
        have i2 := yk_15_2 (li := li) (mi := mi) (mv := mv) (al := al) (nc := nc) (nl := nl) (on := on) (il := il) (ba := ba) x y 0 0 ⟨c0, c1, r2, r3, r4, r5, by assumption⟩ iN
        rw [k0, k3] at i2
        rw [k0, k1, k2, k3, k4, k5]
        refine ⟨?_, ⟨⟨c0, c1, r2, r3, r4, r5, by assumption⟩, iG, i2, iS, iK0, iK, iH0, iH⟩, ⟨kA, ?_⟩, ⟨hA, ?_⟩, hc, ⟨hE, hTp⟩, hp, M1⟩
        · unfold rL_does_15 rX7_greet
          rw [xg, if_pos rfl, ed, M2]
          exact if_pos rfl
        · rw [if_neg (zEMn q)]
          exact kB
        · rw [if_neg (zEMn q)]
          exact hB
      · have xs : xX7_greet ni li mi mv nx al nc nl ki fi se th size on il ba x y = 3 := by
          rw [xg]
          by_cases q : ni = 1
          · rw [if_pos q]
            by_cases v3 : rX7_isIn on a = 0
            · rw [if_pos v3]
            · rw [if_neg v3]
              by_cases v4 : rX7_isIn on b = 0
              · rw [if_pos v4]
              · exact absurd ⟨q, v3, v4⟩ v
          · rw [if_neg q]
        have f0 : (if zPL vg = 0 then (0 : Int32) else (if sa = 0 then (0 : Int32) else (if rX7_isIn on b = 0 then (0 : Int32) else (1 : Int32)))) = 0 := by
          by_cases q : ni = 1
          · rw [if_neg (fun r => (aP.mp r) q)]
            by_cases v3 : rX7_isIn on a = 0
            · rw [if_pos (aI.mpr (Or.inr v3))]
            · rw [if_neg (fun r => (aI.mp r).elim (zvne ra rfl) v3)]
              by_cases v4 : rX7_isIn on b = 0
              · rw [if_pos v4]
              · exact absurd ⟨q, v3, v4⟩ v
          · rw [if_pos (aP.mpr q)]
        obtain ⟨k0, k1, k2, k3, k4, k5⟩ := keep 3 xs z3n
        rw [k0, k1, k2, k3, k4, k5]
        simp only [if_neg v0, if_neg v2, if_neg z10, if_neg (znle ra (c := 6) rfl), f0, if_true]
        refine ⟨?_, R0⟩
        unfold rL_does_15
        rw [xs, if_neg z3n, if_neg z31n, if_neg z32n, if_pos rfl]
