/-! moves: the law and the class -/
theorem zEMn {ni li mi mv nx al nc nl size : Int32} {ki fi se th : Nat → Int32} {d : Int32} (h : ni = 1) : ¬ oX7_endMove_ni ni li mi mv nx al nc nl ki fi se th size d = 0 := by
  subst h
  unfold oX7_endMove_ni oX7_passMinutes_ni jX7_endMove_53_0
  repeat' split
  all_goals decide
theorem zIJ {ki fi se th : Nat → Int32} {size nx : Int32} (h0 : 0 ≤ nx.toInt) (h1 : nx.toInt < size.toInt) (k a b w : Int32) : rX0_isJust ki fi se th size nx k a b w = (if ki nx.toNatClampNeg = k then (if k = 2 then (if fi nx.toNatClampNeg = a then 1 else 0) else (if k = 3 then (if fi nx.toNatClampNeg = a then 1 else 0) else (if k = 4 then (if jX0_isJust_50_0 ki fi se th size nx k a b w = 0 then (if fi nx.toNatClampNeg = b then (if se nx.toNatClampNeg = a then 1 else 0) else 0) else 1) else (if jX0_isJust_50_0 ki fi se th size nx k a b w = 0 then 0 else (if th nx.toNatClampNeg = w then 1 else 0))))) else 0) := by
  unfold rX0_isJust
  rw [if_neg (ynn h0), if_neg (show ¬ size ≤ nx by rw [Int32.le_iff_toInt_le]; omega)]
theorem zorI (x y : Int32) {k : Int32} (hk : vp_in k 6) : rX7_isIn (x ||| y) k = 0 ↔ (rX7_isIn x k = 0 ∧ rX7_isIn y k = 0) := by
  rw [yi_is0 hk, yi_is0 hk, yi_is0 hk, yi_or]
  exact ⟨fun q => ⟨fun r => q (Or.inl r), fun r => q (Or.inr r)⟩, fun q r => r.elim q.1 q.2⟩
theorem zandm1 (x : Int32) : x &&& (-1) = x := by
  apply yi_ext
  intro m hm
  rw [yi_and]
  exact ⟨fun q => q.1, fun q => ⟨q, yi_m1 m hm⟩⟩
set_option maxHeartbeats 2000000 in
theorem zT_m0 {N : Nat} {ni li mi mv nx al nc nl on il ba size : Int32} {ki fi se th kT hT kn ho kb0 hb0 : Nat → Int32} {gs : Int32} {le wi pr tp pt : Nat → Int32} {fr fb : Nat → Int64} {vk vh vc ve vq vg : Nat → Int32} (h : zRc N ni li mi mv nx al nc nl on il ba size ki fi se th kT hT kn ho kb0 hb0 gs le wi pr tp pt fr fb vk vh vc ve vq vg) (p1 : Int32) (p2 : Int32) (h1 : 0 ≤ p1.toInt) (h2 : 0 ≤ p2.toInt) : (¬ (jL_isMove_0_13_0 ni li mi mv nx al nc nl ki fi se th size on il ba vc vg p1 p2) = 0 → vp_in (vg ((7 : Int32)).toNatClampNeg) 13) ∧ rL_isMove_0 ni li mi mv nx al nc nl ki fi se th size on il ba vc vg p1 p2 = 1 ∧ zRc (N + 1) (oL_isMove_0_ni ni li mi mv nx al nc nl ki fi se th size on il ba vc vg p1 p2) li (oL_isMove_0_mi ni li mi mv nx al nc nl ki fi se th size on il ba vc vg p1 p2) (oL_isMove_0_mv ni li mi mv nx al nc nl ki fi se th size on il ba vc vg p1 p2) (oL_isMove_0_nx ni li mi mv nx al nc nl ki fi se th size on il ba vc vg p1 p2) al (oL_isMove_0_nc ni li mi mv nx al nc nl ki fi se th size on il ba vc vg p1 p2) (oL_isMove_0_nl ni li mi mv nx al nc nl ki fi se th size on il ba vc vg p1 p2) (oL_isMove_0_on ni li mi mv nx al nc nl ki fi se th size on il ba vc vg p1 p2) il ba size ki fi se th kT hT kn ho kb0 hb0 gs le wi pr tp pt fr fb vk vh vc ve vq (oL_isMove_0_vg ni li mi mv nx al nc nl ki fi se th size on il ba vc vg p1 p2) := by
  obtain ⟨⟨iC, iG, iN, iS, iK0, iK, iH0, iH⟩, ⟨kA, kB⟩, ⟨hA, hB⟩, hc, ⟨hE, hTp⟩, hp, hg⟩ := h
  have hTp := zJt_le hTp (Nat.le_succ N)
  have hg' := hg
  obtain ⟨g0, g1, g2, g3, g4, g5, g6, g7, g8, g9, g10, g11, g12⟩ := hg'
  obtain ⟨aA, aB, aW, aP, aS, aI⟩ := zArgs hg hc iC iN (p1 := p1) (p2 := p2) h1
  have c0 := iC.1
  have c1 := iC.2.1
  have h26 : ¬ zPL vg = 0 → vp_in (vg ((7 : Int32)).toNatClampNeg) 13 := by
    intro q
    have r : ni = 1 := Classical.byContradiction (fun r => q (aP.mpr r))
    obtain ⟨n0, n1⟩ := iN r
    rw [zN7, g7]
    exact zin_b n0 (by omega)
  have R0 : zRc (N + 1) ni li mi mv nx al nc nl on il ba size ki fi se th kT hT kn ho kb0 hb0 gs le wi pr tp pt fr fb vk vh vc ve vq vg := ⟨⟨iC, iG, iN, iS, iK0, iK, iH0, iH⟩, ⟨kA, kB⟩, ⟨hA, hB⟩, hc, ⟨hE, hTp⟩, hp, hg⟩
  unfold rL_isMove_0 oL_isMove_0_on oL_isMove_0_ni oL_isMove_0_mi oL_isMove_0_mv oL_isMove_0_nx oL_isMove_0_nc oL_isMove_0_nl oL_isMove_0_vg jL_isMove_0_356_0 jL_isMove_0_356_1 jL_isMove_0_293_0 jL_isMove_0_348_0 jL_isMove_0_274_0 jL_isMove_0_232_0 jL_isMove_0_218_0
  have e88 : jL_isMove_0_88_0 ni li mi mv nx al nc nl ki fi se th size on il ba vc vg p1 p2 = zAa vg vc p1 p2 := rfl
  have e114 : jL_isMove_0_114_0 ni li mi mv nx al nc nl ki fi se th size on il ba vc vg p1 p2 = zBb vg vc p1 p2 := rfl
  have e154 : jL_isMove_0_154_0 ni li mi mv nx al nc nl ki fi se th size on il ba vc vg p1 p2 = zWw vg vc p1 p2 := rfl
  have e13 : jL_isMove_0_13_0 ni li mi mv nx al nc nl ki fi se th size on il ba vc vg p1 p2 = zPL vg := rfl
  have e31 : jL_isMove_0_31_0 ni li mi mv nx al nc nl ki fi se th size on il ba vc vg p1 p2 = zST vg vc := rfl
  have e181 : jL_isMove_0_181_0 ni li mi mv nx al nc nl ki fi se th size on il ba vc vg p1 p2 = zSA vg vc p1 p2 := rfl
  have e50 : jL_isMove_0_50_0 ni li mi mv nx al nc nl ki fi se th size on il ba vc vg p1 p2 = zNE vg p2 := rfl
  simp only [e88, e114, e154, e13, e31, e181, e50]
  clear e88 e114 e154 e13 e31 e181 e50
  generalize zAa vg vc p1 p2 = a at aA aI ⊢
  generalize zBb vg vc p1 p2 = b at aB ⊢
  generalize zWw vg vc p1 p2 = w at aW ⊢
  generalize zSA vg vc p1 p2 = sa at aI ⊢
  generalize zST vg vc = st at aS ⊢
  generalize hM : (if zNE vg p2 = 0 then a else (if sa = 0 then a else b)) = m
  have hm : m = 6 ∨ vp_in m 6 := by
    rw [← hM]
    split
    · exact aA
    · split
      · exact aA
      · exact Or.inr aB
  clear hM
  have keep : ∀ n9 : Nat, xX7_enter ni li mi mv nx al nc nl ki fi se th size on il ba m = n9 → ¬ n9 = 0 → (oL_does_10_on ni li mi mv nx al nc nl ki fi se th size on il ba m 0 0 0 = on ∧ oL_does_10_ni ni li mi mv nx al nc nl ki fi se th size on il ba m 0 0 0 = ni ∧ oL_does_10_mi ni li mi mv nx al nc nl ki fi se th size on il ba m 0 0 0 = mi ∧ oL_does_10_mv ni li mi mv nx al nc nl ki fi se th size on il ba m 0 0 0 = mv ∧ oL_does_10_nx ni li mi mv nx al nc nl ki fi se th size on il ba m 0 0 0 = nx ∧ oL_does_10_nc ni li mi mv nx al nc nl ki fi se th size on il ba m 0 0 0 = nc ∧ oL_does_10_nl ni li mi mv nx al nc nl ki fi se th size on il ba m 0 0 0 = nl) := by
    intro n9 q1 q2
    unfold oL_does_10_on oL_does_10_ni oL_does_10_mi oL_does_10_mv oL_does_10_nx oL_does_10_nc oL_does_10_nl
    rw [q1]
    simp only [if_neg q2]
    exact ⟨trivial, trivial, trivial, trivial, trivial, trivial, trivial⟩
  refine ⟨h26, ?_⟩
  rw [zN1, zN9, g1, g9, zLI, zLI]
  rcases hm with rfl | rm
  · have xs : xX7_enter ni li mi mv nx al nc nl ki fi se th size on il ba 6 = 1 := by
      unfold xX7_enter
      rw [zM6, if_neg z1n]
    obtain ⟨k0, k1, k2, k3, k4, k5, k6⟩ := keep 1 xs z1n
    rw [k0, k1, k2, k3, k4, k5, k6]
    simp only [if_pos (show (6 : Int32) ≤ 6 by decide), if_true]
    refine ⟨?_, R0⟩
    unfold rL_does_10
    rw [xs, if_neg z1n, if_pos rfl, if_pos rfl]
  · simp only [if_neg (znle rm (c := 6) rfl), if_neg z10]
    by_cases q : ni = 1
    · have hpl : ¬ zPL vg = 0 := fun r => (aP.mp r) q
      have x0 : xX7_enter ni li mi mv nx al nc nl ki fi se th size on il ba m = if rX7_isIn (il ||| on) m = 0 then 0 else 3 := by
        unfold xX7_enter
        rw [if_pos (zMk rm), if_pos (zPL0 q)]
      rw [if_neg hpl]
      by_cases v : rX7_isIn il m = 0 ∧ rX7_isIn on m = 0
      · obtain ⟨v1, v2⟩ := v
        have xs : xX7_enter ni li mi mv nx al nc nl ki fi se th size on il ba m = 0 := by rw [x0, if_pos ((zorI il on rm).mpr ⟨v1, v2⟩)]
        simp only [if_pos v1, if_pos v2, if_neg z10]
        obtain ⟨n0, n1⟩ := iN q
        have hn : nx.toNatClampNeg < 12 := by
          have e := zcn n0
          omega
        obtain ⟨_, _, r2, r3, r4, r5, _⟩ := iC
        have ed : rX0_isJust ki fi se th size nx 2 m (-1) (-1) = (if zRem st (8 : Int32) = (2 : Int32) then (if zRem (st / (8 : Int32)) (8 : Int32) = m then (1 : Int32) else (0 : Int32)) else (0 : Int32)) := by
          rw [aS q, zcd_k (r2 _ hn) (r3 _ hn) (r4 _ hn) (r5 _ hn), zcd_a (r2 _ hn) (r3 _ hn) (r4 _ hn) (r5 _ hn), zIJ n0 n1, if_pos (show (2 : Int32) = 2 from rfl)]
        generalize (if zRem st (8 : Int32) = (2 : Int32) then (if zRem (st / (8 : Int32)) (8 : Int32) = m then (1 : Int32) else (0 : Int32)) else (0 : Int32)) = d at ed ⊢
        have hd : d = 0 ∨ d = 1 := by
          rw [← ed, zIJ n0 n1]
          repeat' split
          all_goals first | exact Or.inl rfl | exact Or.inr rfl
        have hg2 : zJg (upd vg 9 (on ||| ((1 : Int32) <<< (m &&& 31)))) ni li mi mv nx al nc nl (on ||| ((1 : Int32) <<< (m &&& 31))) il ba size gs := by
          refine ⟨?_, ?_, ?_, ?_, ?_, ?_, ?_, ?_, ?_, zuE _ _ _, ?_, ?_, ?_⟩ <;> (rw [zuN _ _ (by decide)]; assumption)
        obtain ⟨M1, M2⟩ := zMV ki fi se th hg2 q n0 n1 c1 hd
        have k : oL_does_10_on ni li mi mv nx al nc nl ki fi se th size on il ba m 0 0 0 = (on ||| ((1 : Int32) <<< (m &&& 31))) ∧ oL_does_10_ni ni li mi mv nx al nc nl ki fi se th size on il ba m 0 0 0 = oX7_endMove_ni ni li mi mv nx al nc nl ki fi se th size d ∧ oL_does_10_mi ni li mi mv nx al nc nl ki fi se th size on il ba m 0 0 0 = oX7_endMove_mi ni li mi mv nx al nc nl ki fi se th size d ∧ oL_does_10_mv ni li mi mv nx al nc nl ki fi se th size on il ba m 0 0 0 = oX7_endMove_mv ni li mi mv nx al nc nl ki fi se th size d ∧ oL_does_10_nx ni li mi mv nx al nc nl ki fi se th size on il ba m 0 0 0 = oX7_endMove_nx ni li mi mv nx al nc nl ki fi se th size d ∧ oL_does_10_nc ni li mi mv nx al nc nl ki fi se th size on il ba m 0 0 0 = oX7_endMove_nc ni li mi mv nx al nc nl ki fi se th size d ∧ oL_does_10_nl ni li mi mv nx al nc nl ki fi se th size on il ba m 0 0 0 = oX7_endMove_nl ni li mi mv nx al nc nl ki fi se th size d := by
          unfold oL_does_10_on oL_does_10_ni oL_does_10_mi oL_does_10_mv oL_does_10_nx oL_does_10_nc oL_does_10_nl oX7_enter_on oX7_enter_ni oX7_enter_mi oX7_enter_mv oX7_enter_nx oX7_enter_nc oX7_enter_nl
          rw [xs, ed]
          exact ⟨rfl, rfl, rfl, rfl, rfl, rfl, rfl⟩
        obtain ⟨k0, k1, k2, k3, k4, k5, k6⟩ := k
        have i2 := yk_10_2 (li := li) (mi := mi) (mv := mv) (al := al) (nc := nc) (nl := nl) (on := on) (il := il) (ba := ba) m 0 0 0 ⟨c0, c1, r2, r3, r4, r5, by assumption⟩ iN
        have i3 := yk_10_3 (ni := ni) (li := li) (mi := mi) (mv := mv) (nx := nx) (al := al) (nc := nc) (nl := nl) (ba := ba) (size := size) (ki := ki) (fi := fi) (se := se) (th := th) m 0 0 0 iS
        rw [k1, k4] at i2
        rw [k0] at i3
        rw [k0, k1, k2, k3, k4, k5, k6]
        have q0 : ¬ ni = 0 := by
          rw [q]
          exact z10
        rw [if_neg q0] at kB hB
        refine ⟨?_, ⟨⟨c0, c1, r2, r3, r4, r5, by assumption⟩, iG, i2, i3, iK0, iK, iH0, iH⟩, ⟨kA, ?_⟩, ⟨hA, ?_⟩, hc, ⟨hE, hTp⟩, hp, M1⟩
        · unfold rL_does_10 rX7_enter
          rw [xs, if_pos rfl, ed, M2]
          exact if_pos rfl
        · rw [if_neg (zEMn q)]
          exact kB
        · rw [if_neg (zEMn q)]
          exact hB
      · have xs : xX7_enter ni li mi mv nx al nc nl ki fi se th size on il ba m = 3 := by rw [x0, if_neg (fun r => v ((zorI il on rm).mp r))]
        have f0 : (if rX7_isIn il m = 0 then (if rX7_isIn on m = 0 then (1 : Int32) else 0) else 0) = 0 := by
          by_cases v1 : rX7_isIn il m = 0
          · by_cases v2 : rX7_isIn on m = 0
            · exact absurd ⟨v1, v2⟩ v
            · rw [if_pos v1, if_neg v2]
          · rw [if_neg v1]
        obtain ⟨k0, k1, k2, k3, k4, k5, k6⟩ := keep 3 xs z3n
        rw [k0, k1, k2, k3, k4, k5, k6]
        simp only [f0, if_true]
        refine ⟨?_, R0⟩
        unfold rL_does_10
        rw [xs, if_neg z3n, if_neg z31n, if_pos rfl]
    · have hpl : zPL vg = 0 := aP.mpr q
      have xs : xX7_enter ni li mi mv nx al nc nl ki fi se th size on il ba m = 3 := by
        unfold xX7_enter
        rw [if_pos (zMk rm), zPL3 q, if_neg z3n]
      obtain ⟨k0, k1, k2, k3, k4, k5, k6⟩ := keep 3 xs z3n
      rw [k0, k1, k2, k3, k4, k5, k6]
      simp only [if_pos hpl, if_true]
      refine ⟨?_, R0⟩
      unfold rL_does_10
      rw [xs, if_neg z3n, if_neg z31n, if_pos rfl]
set_option maxHeartbeats 2000000 in
theorem zT_m3 {N : Nat} {ni li mi mv nx al nc nl on il ba size : Int32} {ki fi se th kT hT kn ho kb0 hb0 : Nat → Int32} {gs : Int32} {le wi pr tp pt : Nat → Int32} {fr fb : Nat → Int64} {vk vh vc ve vq vg : Nat → Int32} (h : zRc N ni li mi mv nx al nc nl on il ba size ki fi se th kT hT kn ho kb0 hb0 gs le wi pr tp pt fr fb vk vh vc ve vq vg) (p1 : Int32) (p2 : Int32) (h1 : 0 ≤ p1.toInt) (h2 : 0 ≤ p2.toInt) : (¬ (jL_isMove_3_13_0 ni li mi mv nx al nc nl ki fi se th size on il ba vc vg p1 p2) = 0 → vp_in (vg ((7 : Int32)).toNatClampNeg) 13) ∧ rL_isMove_3 ni li mi mv nx al nc nl ki fi se th size on il ba vc vg p1 p2 = 1 ∧ zRc (N + 1) (oL_isMove_3_ni ni li mi mv nx al nc nl ki fi se th size on il ba vc vg p1 p2) li (oL_isMove_3_mi ni li mi mv nx al nc nl ki fi se th size on il ba vc vg p1 p2) (oL_isMove_3_mv ni li mi mv nx al nc nl ki fi se th size on il ba vc vg p1 p2) (oL_isMove_3_nx ni li mi mv nx al nc nl ki fi se th size on il ba vc vg p1 p2) al (oL_isMove_3_nc ni li mi mv nx al nc nl ki fi se th size on il ba vc vg p1 p2) (oL_isMove_3_nl ni li mi mv nx al nc nl ki fi se th size on il ba vc vg p1 p2) (oL_isMove_3_on ni li mi mv nx al nc nl ki fi se th size on il ba vc vg p1 p2) il ba size ki fi se th kT hT kn ho kb0 hb0 gs le wi pr tp pt fr fb vk vh vc ve vq (oL_isMove_3_vg ni li mi mv nx al nc nl ki fi se th size on il ba vc vg p1 p2) := by
  obtain ⟨⟨iC, iG, iN, iS, iK0, iK, iH0, iH⟩, ⟨kA, kB⟩, ⟨hA, hB⟩, hc, ⟨hE, hTp⟩, hp, hg⟩ := h
  have hTp := zJt_le hTp (Nat.le_succ N)
  have hg' := hg
  obtain ⟨g0, g1, g2, g3, g4, g5, g6, g7, g8, g9, g10, g11, g12⟩ := hg'
  obtain ⟨aA, aB, aW, aP, aS, aI⟩ := zArgs hg hc iC iN (p1 := p1) (p2 := p2) h1
  have c0 := iC.1
  have c1 := iC.2.1
  have h26 : ¬ zPL vg = 0 → vp_in (vg ((7 : Int32)).toNatClampNeg) 13 := by
    intro q
    have r : ni = 1 := Classical.byContradiction (fun r => q (aP.mpr r))
    obtain ⟨n0, n1⟩ := iN r
    rw [zN7, g7]
    exact zin_b n0 (by omega)
  have R0 : zRc (N + 1) ni li mi mv nx al nc nl on il ba size ki fi se th kT hT kn ho kb0 hb0 gs le wi pr tp pt fr fb vk vh vc ve vq vg := ⟨⟨iC, iG, iN, iS, iK0, iK, iH0, iH⟩, ⟨kA, kB⟩, ⟨hA, hB⟩, hc, ⟨hE, hTp⟩, hp, hg⟩
  unfold rL_isMove_3 oL_isMove_3_on oL_isMove_3_ni oL_isMove_3_mi oL_isMove_3_mv oL_isMove_3_nx oL_isMove_3_nc oL_isMove_3_nl oL_isMove_3_vg jL_isMove_3_476_0 jL_isMove_3_476_1 jL_isMove_3_468_0 jL_isMove_3_409_0 jL_isMove_3_386_0
  have e88 : jL_isMove_3_88_0 ni li mi mv nx al nc nl ki fi se th size on il ba vc vg p1 p2 = zAa vg vc p1 p2 := rfl
  have e114 : jL_isMove_3_114_0 ni li mi mv nx al nc nl ki fi se th size on il ba vc vg p1 p2 = zBb vg vc p1 p2 := rfl
  have e154 : jL_isMove_3_154_0 ni li mi mv nx al nc nl ki fi se th size on il ba vc vg p1 p2 = zWw vg vc p1 p2 := rfl
  have e13 : jL_isMove_3_13_0 ni li mi mv nx al nc nl ki fi se th size on il ba vc vg p1 p2 = zPL vg := rfl
  have e31 : jL_isMove_3_31_0 ni li mi mv nx al nc nl ki fi se th size on il ba vc vg p1 p2 = zST vg vc := rfl
  have e181 : jL_isMove_3_181_0 ni li mi mv nx al nc nl ki fi se th size on il ba vc vg p1 p2 = zSA vg vc p1 p2 := rfl
  have e50 : jL_isMove_3_50_0 ni li mi mv nx al nc nl ki fi se th size on il ba vc vg p1 p2 = zNE vg p2 := rfl
  simp only [e88, e114, e154, e13, e31, e181, e50]
  clear e88 e114 e154 e13 e31 e181 e50
  generalize zAa vg vc p1 p2 = a at aA aI ⊢
  generalize zBb vg vc p1 p2 = b at aB ⊢
  generalize zWw vg vc p1 p2 = w at aW ⊢
  generalize zSA vg vc p1 p2 = sa at aI ⊢
  generalize zST vg vc = st at aS ⊢
  have keep : ∀ n9 : Nat, xX7_exit ni li mi mv nx al nc nl ki fi se th size on il ba a = n9 → ¬ n9 = 0 → (oL_does_11_on ni li mi mv nx al nc nl ki fi se th size on il ba a 0 0 0 = on ∧ oL_does_11_ni ni li mi mv nx al nc nl ki fi se th size on il ba a 0 0 0 = ni ∧ oL_does_11_mi ni li mi mv nx al nc nl ki fi se th size on il ba a 0 0 0 = mi ∧ oL_does_11_mv ni li mi mv nx al nc nl ki fi se th size on il ba a 0 0 0 = mv ∧ oL_does_11_nx ni li mi mv nx al nc nl ki fi se th size on il ba a 0 0 0 = nx ∧ oL_does_11_nc ni li mi mv nx al nc nl ki fi se th size on il ba a 0 0 0 = nc ∧ oL_does_11_nl ni li mi mv nx al nc nl ki fi se th size on il ba a 0 0 0 = nl) := by
    intro n9 q1 q2
    unfold oL_does_11_on oL_does_11_ni oL_does_11_mi oL_does_11_mv oL_does_11_nx oL_does_11_nc oL_does_11_nl
    rw [q1]
    simp only [if_neg q2]
    exact ⟨trivial, trivial, trivial, trivial, trivial, trivial, trivial⟩
  refine ⟨h26, ?_⟩
  rw [zN9, g9]
  have same : upd vg 9 (on &&& (-1)) = vg := by rw [zandm1, ← g9, zUpS]
  by_cases v : ni = 1 ∧ vp_in a 6 ∧ ¬ rX7_isIn on a = 0
  · obtain ⟨q, ra, v1⟩ := v
    have hpl : ¬ zPL vg = 0 := fun r => (aP.mp r) q
    have hsa : ¬ sa = 0 := fun r => (aI.mp r).elim (zvne ra rfl) v1
    have xs : xX7_exit ni li mi mv nx al nc nl ki fi se th size on il ba a = 0 := by
      unfold xX7_exit
      rw [if_pos (zMk ra), if_pos (zPL0 q), if_pos (zOn0 v1)]
    simp only [if_neg (zvne ra (c := 6) rfl), if_neg hpl, if_neg hsa, if_neg z10]
    obtain ⟨n0, n1⟩ := iN q
    have hn : nx.toNatClampNeg < 12 := by
      have e := zcn n0
      omega
    obtain ⟨_, _, r2, r3, r4, r5, _⟩ := iC
    have ed : rX0_isJust ki fi se th size nx 3 a (-1) (-1) = (if zRem st (8 : Int32) = (3 : Int32) then (if zRem (st / (8 : Int32)) (8 : Int32) = a then (1 : Int32) else (0 : Int32)) else (0 : Int32)) := by
      rw [aS q, zcd_k (r2 _ hn) (r3 _ hn) (r4 _ hn) (r5 _ hn), zcd_a (r2 _ hn) (r3 _ hn) (r4 _ hn) (r5 _ hn), zIJ n0 n1, if_neg (show ¬ (3 : Int32) = 2 by decide), if_pos (show (3 : Int32) = 3 from rfl)]
    generalize (if zRem st (8 : Int32) = (3 : Int32) then (if zRem (st / (8 : Int32)) (8 : Int32) = a then (1 : Int32) else (0 : Int32)) else (0 : Int32)) = d at ed ⊢
    have hd : d = 0 ∨ d = 1 := by
      rw [← ed, zIJ n0 n1]
      repeat' split
      all_goals first | exact Or.inl rfl | exact Or.inr rfl
    have hg2 : zJg (upd vg 9 (on &&& (((1 : Int32) <<< (a &&& 31)) ^^^ (-1)))) ni li mi mv nx al nc nl (on &&& (((1 : Int32) <<< (a &&& 31)) ^^^ (-1))) il ba size gs := by
      refine ⟨?_, ?_, ?_, ?_, ?_, ?_, ?_, ?_, ?_, zuE _ _ _, ?_, ?_, ?_⟩ <;> (rw [zuN _ _ (by decide)]; assumption)
    obtain ⟨M1, M2⟩ := zMV ki fi se th hg2 q n0 n1 c1 hd
    have k : oL_does_11_on ni li mi mv nx al nc nl ki fi se th size on il ba a 0 0 0 = (on &&& (((1 : Int32) <<< (a &&& 31)) ^^^ (-1))) ∧ oL_does_11_ni ni li mi mv nx al nc nl ki fi se th size on il ba a 0 0 0 = oX7_endMove_ni ni li mi mv nx al nc nl ki fi se th size d ∧ oL_does_11_mi ni li mi mv nx al nc nl ki fi se th size on il ba a 0 0 0 = oX7_endMove_mi ni li mi mv nx al nc nl ki fi se th size d ∧ oL_does_11_mv ni li mi mv nx al nc nl ki fi se th size on il ba a 0 0 0 = oX7_endMove_mv ni li mi mv nx al nc nl ki fi se th size d ∧ oL_does_11_nx ni li mi mv nx al nc nl ki fi se th size on il ba a 0 0 0 = oX7_endMove_nx ni li mi mv nx al nc nl ki fi se th size d ∧ oL_does_11_nc ni li mi mv nx al nc nl ki fi se th size on il ba a 0 0 0 = oX7_endMove_nc ni li mi mv nx al nc nl ki fi se th size d ∧ oL_does_11_nl ni li mi mv nx al nc nl ki fi se th size on il ba a 0 0 0 = oX7_endMove_nl ni li mi mv nx al nc nl ki fi se th size d := by
      unfold oL_does_11_on oL_does_11_ni oL_does_11_mi oL_does_11_mv oL_does_11_nx oL_does_11_nc oL_does_11_nl oX7_exit_on oX7_exit_ni oX7_exit_mi oX7_exit_mv oX7_exit_nx oX7_exit_nc oX7_exit_nl
      rw [xs, ed]
      exact ⟨rfl, rfl, rfl, rfl, rfl, rfl, rfl⟩
    obtain ⟨k0, k1, k2, k3, k4, k5, k6⟩ := k
    have i2 := yk_11_2 (li := li) (mi := mi) (mv := mv) (al := al) (nc := nc) (nl := nl) (on := on) (il := il) (ba := ba) a 0 0 0 ⟨c0, c1, r2, r3, r4, r5, by assumption⟩ iN
    have i3 := yk_11_3 (ni := ni) (li := li) (mi := mi) (mv := mv) (nx := nx) (al := al) (nc := nc) (nl := nl) (ba := ba) (size := size) (ki := ki) (fi := fi) (se := se) (th := th) a 0 0 0 iS
    rw [k1, k4] at i2
    rw [k0] at i3
    rw [k0, k1, k2, k3, k4, k5, k6]
    have q0 : ¬ ni = 0 := by
      rw [q]
      exact z10
    rw [if_neg q0] at kB hB
    refine ⟨?_, ⟨⟨c0, c1, r2, r3, r4, r5, by assumption⟩, iG, i2, i3, iK0, iK, iH0, iH⟩, ⟨kA, ?_⟩, ⟨hA, ?_⟩, hc, ⟨hE, hTp⟩, hp, M1⟩
    · unfold rL_does_11 rX7_exit
      rw [xs, if_pos rfl, ed, M2]
      exact if_pos rfl
    · rw [if_neg (zEMn q)]
      exact kB
    · rw [if_neg (zEMn q)]
      exact hB
  · have f0 : (if zPL vg = 0 then (0 : Int32) else (if sa = 0 then (0 : Int32) else (1 : Int32))) = 0 := by
      by_cases q : ni = 1
      · have hsa : sa = 0 := aI.mpr (by
          rcases aA with r | r
          · exact Or.inl r
          · exact Or.inr (Classical.byContradiction (fun z => v ⟨q, r, z⟩)))
        rw [if_pos hsa]
        split <;> rfl
      · rw [if_pos (aP.mpr q)]
    simp only [f0, if_true, same]
    rcases aA with rfl | ra
    · have xs : xX7_exit ni li mi mv nx al nc nl ki fi se th size on il ba 6 = 1 := by
        unfold xX7_exit
        rw [zM6, if_neg z1n]
      obtain ⟨k0, k1, k2, k3, k4, k5, k6⟩ := keep 1 xs z1n
      rw [k0, k1, k2, k3, k4, k5, k6]
      simp only [if_true, ite_self]
      refine ⟨?_, R0⟩
      unfold rL_does_11
      rw [xs, if_neg z1n, if_pos rfl, if_pos rfl]
    · have xs : xX7_exit ni li mi mv nx al nc nl ki fi se th size on il ba a = 3 := by
        unfold xX7_exit
        rw [if_pos (zMk ra)]
        by_cases q : ni = 1
        · rw [if_pos (zPL0 q), zOn3 (Classical.byContradiction (fun z => v ⟨q, ra, z⟩)), if_neg z3n]
        · rw [zPL3 q, if_neg z3n]
      obtain ⟨k0, k1, k2, k3, k4, k5, k6⟩ := keep 3 xs z3n
      rw [k0, k1, k2, k3, k4, k5, k6]
      simp only [if_neg (zvne ra (c := 6) rfl)]
      refine ⟨?_, R0⟩
      unfold rL_does_11
      rw [xs, if_neg z3n, if_neg z31n, if_pos rfl]
