theorem zin_2449' {x : Int32} (h : vp_in x 24) : vp_in x 49 := zin_le h (by decide)
theorem zi24' {i : Int32} (h : vp_in i 24) : vp_in ((24 : Int32) + i) 49 := zi24 h
/-! what is told: the law and the class -/
set_option maxHeartbeats 2000000 in
theorem zT_0 {N : Nat} {ni li mi mv nx al nc nl on il ba size : Int32} {ki fi se th kT hT kn ho kb0 hb0 : Nat → Int32} {gs : Int32} {le wi pr tp pt : Nat → Int32} {fr fb : Nat → Int64} {vk vh vc ve vq vg : Nat → Int32} (h : zRc N ni li mi mv nx al nc nl on il ba size ki fi se th kT hT kn ho kb0 hb0 gs le wi pr tp pt fr fb vk vh vc ve vq vg) (p1 : Int32) (p2 : Int32) (h1 : 0 ≤ p1.toInt) (h2 : 0 ≤ p2.toInt) : ((0 : Int32) = 0 → vp_in (jL_isTold_0_100_0 ni li mi mv nx al nc nl kb0 hb0 vk vg p1 p2) 49) ∧ ((0 : Int32) = 0 → vp_in (jL_isTold_0_121_0 ni li mi mv nx al nc nl kb0 hb0 vk vg p1 p2) 49) ∧ ((0 : Int32) = 0 → vp_in (jL_isTold_0_155_0 ni li mi mv nx al nc nl kb0 hb0 vk vg p1 p2) 49) ∧ rL_isTold_0 ni li mi mv nx al nc nl kb0 hb0 vk vg p1 p2 = 1 ∧ zRc N ni li mi mv nx al nc nl on il ba size ki fi se th kT hT kn ho (oL_isTold_0_kb0 ni li mi mv nx al nc nl kb0 hb0 vk vg p1 p2) hb0 gs le wi pr tp pt fr fb (oL_isTold_0_vk ni li mi mv nx al nc nl kb0 hb0 vk vg p1 p2) vh vc ve vq vg := by
  obtain ⟨⟨iC, iG, iN, iS, iK0, iK, iH0, iH⟩, ⟨kA, kB⟩, ⟨hA, hB⟩, hc, ⟨hE, hT⟩, hp, hg⟩ := h
  have hm := zpk p1 13 12 6 6 6 rfl (by decide) h1
  have hs := zpk p2 9 8 4 4 4 rfl (by decide) h2
  have g4 := hg.2.2.2.2.1
  unfold rL_isTold_0 oL_isTold_0_kb0 oL_isTold_0_vk jL_isTold_0_198_0 jL_isTold_0_155_0 jL_isTold_0_121_0 jL_isTold_0_100_0 jL_isTold_0_82_0 jL_isTold_0_182_0 jL_isTold_0_165_0 jL_isTold_0_131_0 jL_isTold_0_25_0 jL_isTold_0_45_0
  generalize hme : (if zRem p1 13 = 12 then (6 : Int32) else zRem p1 6) = m at hm ⊢
  generalize hse : (if zRem p2 9 = 8 then (4 : Int32) else zRem p2 4) = s at hs ⊢
  generalize hde : (if jL_isTold_0_62_0 ni li mi mv nx al nc nl kb0 hb0 vk vg p1 p2 = 0 then (0 : Int32) else 1) = d
  have hd : d = 0 ∨ d = 1 := by
    rw [← hde]
    split
    · exact Or.inl rfl
    · exact Or.inr rfl
  clear hme hse hde
  by_cases hv : vp_in m 6 ∧ vp_in s 4
  · obtain ⟨rm, rs⟩ := hv
    have l1 := zin_lt rm
    have l2 := zin_lt rs
    have hx : ∀ d3, xX7_knows ni li mi mv nx al nc nl kb0 hb0 m s d3 = 0 := fun d3 => by
      unfold xX7_knows
      rw [if_pos (zMk rm), if_pos (zSk rs)]
    have w1 := zB0 (kA _ _ l1 l2)
    have w2 := zB1 (kA _ _ l1 l2)
    have i1 := yi_is0 (x := kb0 s.toNatClampNeg) rm
    simp only [if_neg (znle rm (c := 6) rfl), if_neg (znle rs (c := 4) rfl), if_neg z10, zN4, g4]
    refine ⟨fun _ => zin_2449' (zi4m rm rs), fun _ => zin_2449' (zi4m rm rs), fun _ => ?_, ?_, ?_⟩
    · split
      · exact zi24' (zi4m rm rs)
      · exact by unfold vp_in; decide
    · unfold rL_does_0
      rw [if_pos (hx _)]
      unfold rX7_knows rX2_isKnower
      rw [zc4m rm rs]
      by_cases q : rX7_isIn (kb0 s.toNatClampNeg) m = 0
      · rw [if_pos q, w1.mpr (i1.mp q), if_pos rfl]
      · rw [if_neg q, w2.mpr (Classical.byContradiction (fun r => q (i1.mpr r))), if_pos rfl]
    · have e1 : oL_does_0_kb0 ni li mi mv nx al nc nl kb0 hb0 m s d 0 = upd kb0 s.toNatClampNeg (if d = 0 then kb0 s.toNatClampNeg &&& (((1 : Int32) <<< (m &&& 31)) ^^^ (-1)) else kb0 s.toNatClampNeg ||| ((1 : Int32) <<< (m &&& 31))) := by
        unfold oL_does_0_kb0
        rw [if_pos (hx _)]
        unfold oX7_knows_kb0 jL_does_0_18_0 oX2_forget_fk oX2_learn_fk
        rcases hd with rfl | rfl
        · rfl
        · rfl
      have hbit : ∀ j : Nat, j < 6 → (yi (if d = 0 then kb0 s.toNatClampNeg &&& (((1 : Int32) <<< (m &&& 31)) ^^^ (-1)) else kb0 s.toNatClampNeg ||| ((1 : Int32) <<< (m &&& 31))) j ↔ (if j = m.toNatClampNeg then d = 1 else yi (kb0 s.toNatClampNeg) j)) := by
        intro j hj
        rcases hd with rfl | rfl
        · rw [if_pos rfl, yi_and, yi_not _ (by omega), yi_one3 rm (by omega)]
          by_cases q : j = m.toNatClampNeg
          · rw [if_pos q]
            exact ⟨fun r => absurd q r.2, fun r => absurd r (by decide)⟩
          · rw [if_neg q]
            exact ⟨fun r => r.1, fun r => ⟨r, q⟩⟩
        · rw [if_neg z10, yi_or, yi_one3 rm (by omega)]
          by_cases q : j = m.toNatClampNeg
          · rw [if_pos q]
            exact ⟨fun _ => rfl, fun _ => Or.inr q⟩
          · rw [if_neg q]
            exact ⟨fun r => r.elim id (fun r => absurd r q), Or.inl⟩
      have hdB : zB d (d = 1) := by
        rcases hd with rfl | rfl
        · exact Or.inr ⟨rfl, by decide⟩
        · exact Or.inl ⟨rfl, rfl⟩
      have k0' := yk_0_4 (ni := ni) (li := li) (mi := mi) (mv := mv) (nx := nx) (al := al) (nc := nc) (nl := nl) (hb0 := hb0) m s d 0 iK0
      rw [e1] at k0' ⊢
      have kA' := zJk_upd kA rm rs hdB hbit
      rw [zc4m rm rs]
      refine ⟨⟨iC, iG, iN, iS, k0', iK, iH0, iH⟩, ⟨?_, ?_⟩, ⟨hA, hB⟩, hc, ⟨hE, hT⟩, hp, hg⟩
      · refine zJk_t kA' ?_ _
        by_cases q : ni = 0
        · rw [if_pos q, zc24p (zi4m rm rs)]
          omega
        · rw [if_neg q]
          decide
      · by_cases q : ni = 0
        · rw [if_pos q, if_pos q, zc24p (zi4m rm rs), zc4m rm rs, zsk]
          rw [if_pos q] at kB
          refine zJk_upd ?_ rm rs hdB hbit
          intro m' s' hm' hs'
          show zB (upd vk _ d (24 + (4 * m' + s'))) (yi (kb0 s') m')
          rw [zuN _ _ (by omega)]
          exact kB m' s' hm' hs'
        · rw [if_neg q, if_neg q]
          rw [if_neg q] at kB
          refine zJk_t2 (zJk_t2 kB (Or.inl (by omega)) _) (Or.inr (by decide)) _
  · have hx : ∀ d3, xX7_knows ni li mi mv nx al nc nl kb0 hb0 m s d3 = 1 := fun d3 => by
      unfold xX7_knows
      rcases hm with rfl | rm
      · rw [zM6, if_neg z1n]
      · rcases hs with rfl | rs
        · rw [if_pos (zMk rm), zS4, if_neg z1n]
        · exact absurd ⟨rm, rs⟩ hv
    have e82 : (if (6 : Int32) ≤ m then (0 : Int32) else (if (4 : Int32) ≤ s then 0 else 1)) = 0 := by
      rcases hm with rfl | rm
      · rw [if_pos (by decide)]
      · rcases hs with rfl | rs
        · rw [if_pos (show (4 : Int32) ≤ 4 by decide)]
          split <;> rfl
        · exact absurd ⟨rm, rs⟩ hv
    simp only [e82, if_true]
    refine ⟨fun _ => by unfold vp_in; decide, fun _ => by unfold vp_in; decide, fun _ => by unfold vp_in; decide, ?_, ?_⟩
    · unfold rL_does_0
      rw [if_neg (by rw [hx]; decide), if_pos rfl]
    · have e1 : oL_does_0_kb0 ni li mi mv nx al nc nl kb0 hb0 m s d 0 = kb0 := by
        unfold oL_does_0_kb0
        rw [if_neg (by rw [hx]; decide)]
      rw [e1, zN48]
      exact ⟨⟨iC, iG, iN, iS, iK0, iK, iH0, iH⟩, ⟨zJk_t (zJk_t kA (by decide) _) (by decide) _, zJk_t2 (zJk_t2 kB (Or.inr (by decide)) _) (Or.inr (by decide)) _⟩, ⟨hA, hB⟩, hc, ⟨hE, hT⟩, hp, hg⟩
set_option maxHeartbeats 2000000 in
theorem zT_1 {N : Nat} {ni li mi mv nx al nc nl on il ba size : Int32} {ki fi se th kT hT kn ho kb0 hb0 : Nat → Int32} {gs : Int32} {le wi pr tp pt : Nat → Int32} {fr fb : Nat → Int64} {vk vh vc ve vq vg : Nat → Int32} (h : zRc N ni li mi mv nx al nc nl on il ba size ki fi se th kT hT kn ho kb0 hb0 gs le wi pr tp pt fr fb vk vh vc ve vq vg) (p1 : Int32) (p2 : Int32) (h1 : 0 ≤ p1.toInt) (h2 : 0 ≤ p2.toInt) : (¬ (1 : Int32) = 0 → (1 : Int32) = (1 : Int32) → ¬ (jL_isTold_1_275_0 ni li mi mv nx al nc nl kb0 hb0 vh vg p1 p2) = 0 → vp_in (jL_isTold_1_231_0 ni li mi mv nx al nc nl kb0 hb0 vh vg p1 p2) 9) ∧ (¬ (1 : Int32) = 0 → (1 : Int32) = (1 : Int32) → vp_in (jL_isTold_1_307_0 ni li mi mv nx al nc nl kb0 hb0 vh vg p1 p2) 9) ∧ (¬ (1 : Int32) = 0 → (1 : Int32) = (1 : Int32) → vp_in (jL_isTold_1_334_0 ni li mi mv nx al nc nl kb0 hb0 vh vg p1 p2) 9) ∧ rL_isTold_1 ni li mi mv nx al nc nl kb0 hb0 vh vg p1 p2 = 1 ∧ zRc N ni li mi mv nx al nc nl on il ba size ki fi se th kT hT kn ho kb0 (oL_isTold_1_hb0 ni li mi mv nx al nc nl kb0 hb0 vh vg p1 p2) gs le wi pr tp pt fr fb vk (oL_isTold_1_vh ni li mi mv nx al nc nl kb0 hb0 vh vg p1 p2) vc ve vq vg := by
  obtain ⟨⟨iC, iG, iN, iS, iK0, iK, iH0, iH⟩, ⟨kA, kB⟩, ⟨hA, hB⟩, hc, ⟨hE, hT⟩, hp, hg⟩ := h
  have hp_ := zpk p1 9 8 4 4 4 rfl (by decide) h1
  have hr7 := zrI p2 7 7 rfl (by decide) h2
  have hm : (if zRem p2 15 = 14 then (6 : Int32) else (zRem p2 7 - 1)) = 6 ∨ ((if zRem p2 15 = 14 then (6 : Int32) else (zRem p2 7 - 1)) = -1 ∨ vp_in (if zRem p2 15 = 14 then (6 : Int32) else (zRem p2 7 - 1)) 6) := by
    by_cases q : zRem p2 15 = 14
    · rw [if_pos q]
      exact Or.inl rfl
    · rw [if_neg q]
      have h7 := vp_in_iff.mp hr7
      have e1 : (1 : Int32).toInt = 1 := rfl
      have em : (-1 : Int32).toInt = -1 := rfl
      have e := zsT (a := zRem p2 7) (b := 1) (by omega) (by omega)
      by_cases r : (zRem p2 7).toInt = 0
      · exact Or.inr (Or.inl (Int32.toInt_inj.mp (by omega)))
      · exact Or.inr (Or.inr (zin_b (by omega) (by omega)))
  have g4 := hg.2.2.2.2.1
  unfold rL_isTold_1 oL_isTold_1_hb0 oL_isTold_1_vh jL_isTold_1_362_0 jL_isTold_1_334_0 jL_isTold_1_307_0 jL_isTold_1_292_0 jL_isTold_1_275_0 jL_isTold_1_255_0 jL_isTold_1_231_0
  generalize hme : (if zRem p2 15 = 14 then (6 : Int32) else (zRem p2 7 - 1)) = m at hm ⊢
  generalize hse : (if zRem p1 9 = 8 then (4 : Int32) else zRem p1 4) = w at hp_ ⊢
  clear hme hse
  by_cases hv : (m = -1 ∨ vp_in m 6) ∧ vp_in w 4
  · obtain ⟨rm, rw_⟩ := hv
    have l2 := zin_lt rw_
    have n6 : ¬ (6 : Int32) ≤ m := by
      rcases rm with rfl | rm
      · decide
      · exact znle rm rfl
    have hx : xX7_has ni li mi mv nx al nc nl kb0 hb0 w m = 0 := by
      unfold xX7_has qX7_has_13_x
      rw [if_pos (zPk rw_)]
      by_cases q : m = -1
      · rw [if_pos q]
      · rw [if_neg q, if_pos (zMk (rm.resolve_left q))]
    obtain ⟨m1, m2, m3, m4⟩ := zmp1 (iH0.1 _ l2)
    simp only [if_neg (znle rw_ (c := 4) rfl), if_neg n6, if_neg z10, zN4, g4]
    refine ⟨fun _ _ _ => zin_49 rw_, fun _ _ => zin_49 rw_, fun _ _ => ?_, ?_, ?_⟩
    · split
      · exact zi4 rw_
      · exact by unfold vp_in; decide
    · unfold rL_does_1
      rw [if_pos hx]
      unfold rX7_has qX7_has_13_r
      rw [hA _ l2, m3, if_pos rfl]
    · have e1 : oL_does_1_hb0 ni li mi mv nx al nc nl kb0 hb0 w m 0 0 = upd hb0 w.toNatClampNeg m := by
        unfold oL_does_1_hb0
        rw [if_pos hx]
        rfl
      have k0' := yk_1_6 (ni := ni) (li := li) (mi := mi) (mv := mv) (nx := nx) (al := al) (nc := nc) (nl := nl) (kb0 := kb0) w m 0 0 iH0
      rw [e1] at k0' ⊢
      refine ⟨⟨iC, iG, iN, iS, iK0, iK, k0', iH⟩, ⟨kA, kB⟩, ⟨?_, ?_⟩, hc, ⟨hE, hT⟩, hp, hg⟩
      · refine zJh_t (zJh_upd hA) ?_ _
        by_cases q : ni = 0
        · rw [if_pos q, zc4p rw_]
          omega
        · rw [if_neg q]
          decide
      · by_cases q : ni = 0
        · rw [if_pos q, if_pos q, zc4p rw_, zsh]
          rw [if_pos q] at hB
          exact zJh_upd (zJh_t2 hB (Or.inl l2) _)
        · rw [if_neg q, if_neg q]
          rw [if_neg q] at hB
          exact zJh_t2 (zJh_t2 hB (Or.inl l2) _) (Or.inr (by decide)) _
  · have hx : xX7_has ni li mi mv nx al nc nl kb0 hb0 w m = 1 := by
      unfold xX7_has
      rcases hp_ with rfl | rw_
      · rw [zP4, if_neg z1n]
      · rcases hm with rfl | rm
        · rw [if_pos (zPk rw_), if_neg (by decide), zM6, if_neg z1n]
        · exact absurd ⟨rm, rw_⟩ hv
    have e82 : (if (4 : Int32) ≤ w then (0 : Int32) else (if (6 : Int32) ≤ m then 0 else 1)) = 0 := by
      rcases hp_ with rfl | rw_
      · rw [if_pos (by decide)]
      · rcases hm with rfl | rm
        · rw [if_pos (show (6 : Int32) ≤ 6 by decide)]
          split <;> rfl
        · exact absurd ⟨rm, rw_⟩ hv
    simp only [e82, if_true]
    refine ⟨fun _ _ q => absurd rfl q, fun _ _ => by unfold vp_in; decide, fun _ _ => by unfold vp_in; decide, ?_, ?_⟩
    · unfold rL_does_1
      rw [if_neg (by rw [hx]; decide), if_pos rfl]
    · have e1 : oL_does_1_hb0 ni li mi mv nx al nc nl kb0 hb0 w m 0 0 = hb0 := by
        unfold oL_does_1_hb0
        rw [if_neg (by rw [hx]; decide)]
      rw [e1, zN8]
      exact ⟨⟨iC, iG, iN, iS, iK0, iK, iH0, iH⟩, ⟨kA, kB⟩, ⟨zJh_t (zJh_t hA (by decide) _) (by decide) _, zJh_t2 (zJh_t2 hB (Or.inr (by decide)) _) (Or.inr (by decide)) _⟩, hc, ⟨hE, hT⟩, hp, hg⟩
/-! what is told, on -/
set_option maxHeartbeats 2000000 in
theorem zT_2 {N : Nat} {ni li mi mv nx al nc nl on il ba size : Int32} {ki fi se th kT hT kn ho kb0 hb0 : Nat → Int32} {gs : Int32} {le wi pr tp pt : Nat → Int32} {fr fb : Nat → Int64} {vk vh vc ve vq vg : Nat → Int32} (h : zRc N ni li mi mv nx al nc nl on il ba size ki fi se th kT hT kn ho kb0 hb0 gs le wi pr tp pt fr fb vk vh vc ve vq vg) (p1 : Int32) (p2 : Int32) (h1 : 0 ≤ p1.toInt) (h2 : 0 ≤ p2.toInt) : (¬ (2 : Int32) = 0 → ¬ (2 : Int32) = (1 : Int32) → (2 : Int32) = (2 : Int32) → ¬ (jL_isTold_2_530_0 ni li mi mv nx al nc nl ki fi se th size vc vg p1 p2) = 0 → vp_in (vg ((0 : Int32)).toNatClampNeg) 13) ∧ rL_isTold_2 ni li mi mv nx al nc nl ki fi se th size vc vg p1 p2 = 1 ∧ zRc N ni li mi mv nx al nc nl on il ba (oL_isTold_2_size ni li mi mv nx al nc nl ki fi se th size vc vg p1 p2) (oL_isTold_2_ki ni li mi mv nx al nc nl ki fi se th size vc vg p1 p2) (oL_isTold_2_fi ni li mi mv nx al nc nl ki fi se th size vc vg p1 p2) (oL_isTold_2_se ni li mi mv nx al nc nl ki fi se th size vc vg p1 p2) (oL_isTold_2_th ni li mi mv nx al nc nl ki fi se th size vc vg p1 p2) kT hT kn ho kb0 hb0 gs le wi pr tp pt fr fb vk vh (oL_isTold_2_vc ni li mi mv nx al nc nl ki fi se th size vc vg p1 p2) ve vq (oL_isTold_2_vg ni li mi mv nx al nc nl ki fi se th size vc vg p1 p2) := by
  obtain ⟨⟨iC, iG, iN, iS, iK0, iK, iH0, iH⟩, ⟨kA, kB⟩, ⟨hA, hB⟩, hc, ⟨hE, hT⟩, hp, hg⟩ := h
  have hk := zpk p1 17 16 5 5 5 rfl (by decide) h1
  have ha := zpk (p1 / (17 : Int32)) 13 12 6 6 6 rfl (by decide) (zdv0 (n := 17) rfl (by decide) h1)
  have rb := zrI p2 6 6 rfl (by decide) h2
  have hw0 := zpk (p2 / (6 : Int32)) 9 8 4 2 2 rfl (by decide) (zdv0 (n := 6) rfl (by decide) h2)
  have hg' := hg
  obtain ⟨g0, g1, g2, g3, g4, g5, g6, g7, g8, g9, g10, g11, g12⟩ := hg'
  unfold rL_isTold_2 oL_isTold_2_ki oL_isTold_2_fi oL_isTold_2_se oL_isTold_2_th oL_isTold_2_size oL_isTold_2_vc oL_isTold_2_vg jL_isTold_2_619_0 jL_isTold_2_572_0 jL_isTold_2_572_1 jL_isTold_2_530_0 jL_isTold_2_496_0 jL_isTold_2_476_0 jL_isTold_2_395_0 jL_isTold_2_423_0 jL_isTold_2_456_0
  generalize hke : (if zRem p1 17 = 16 then (5 : Int32) else zRem p1 5) = kd at hk ⊢
  generalize hae : (if zRem (p1 / (17 : Int32)) 13 = 12 then (6 : Int32) else zRem (p1 / (17 : Int32)) 6) = a at ha ⊢
  generalize hbe : zRem p2 6 = b at rb ⊢
  generalize hwe : (if zRem (p2 / (6 : Int32)) 9 = 8 then (4 : Int32) else zRem (p2 / (6 : Int32)) 2) = w at hw0 ⊢
  have hw : w = 4 ∨ vp_in w 4 := hw0.imp id (fun q => zin_le q (by decide))
  clear hke hae hbe hwe hw0
  rw [zN0, g0, zN4, g4]
  have keep : ∀ x : Nat, xX7_step ni li mi mv nx al nc nl ki fi se th size kd a b w = x → ¬ x = 0 → zRc N ni li mi mv nx al nc nl on il ba (oL_does_2_size ni li mi mv nx al nc nl ki fi se th size kd a b w) (oL_does_2_ki ni li mi mv nx al nc nl ki fi se th size kd a b w) (oL_does_2_fi ni li mi mv nx al nc nl ki fi se th size kd a b w) (oL_does_2_se ni li mi mv nx al nc nl ki fi se th size kd a b w) (oL_does_2_th ni li mi mv nx al nc nl ki fi se th size kd a b w) kT hT kn ho kb0 hb0 gs le wi pr tp pt fr fb vk vh vc ve vq vg := by
    intro x q1 q2
    unfold oL_does_2_size oL_does_2_ki oL_does_2_fi oL_does_2_se oL_does_2_th
    rw [q1, if_neg q2, if_neg q2, if_neg q2, if_neg q2, if_neg q2]
    exact ⟨⟨iC, iG, iN, iS, iK0, iK, iH0, iH⟩, ⟨kA, kB⟩, ⟨hA, hB⟩, hc, ⟨hE, hT⟩, hp, hg⟩
  by_cases v1 : vp_in a 6 ∧ vp_in w 4
  · obtain ⟨ra, rw_⟩ := v1
    have e1 : (if (6 : Int32) ≤ a then (0 : Int32) else (if (4 : Int32) ≤ w then 0 else 1)) = 1 := by rw [if_neg (znle ra rfl), if_neg (znle rw_ rfl)]
    rw [e1, if_neg z10, if_neg z10]
    by_cases v2 : vp_in kd 5 ∧ ¬ a = b
    · obtain ⟨rk, hab⟩ := v2
      have e2 : (if (5 : Int32) ≤ kd then (0 : Int32) else (if a = b then 0 else 1)) = 1 := by rw [if_neg (znle rk rfl), if_neg hab]
      rw [e2, if_neg z10, if_neg z10]
      have rk2 := vp_in_iff.mp rk
      have e0 : (0 : Int32).toInt = 0 := rfl
      have e4 : (4 : Int32).toInt = 4 := rfl
      have e12 : (12 : Int32).toInt = 12 := rfl
      have xs : xX7_step ni li mi mv nx al nc nl ki fi se th size kd a b w = if ni = 1 then 3 else if size < 12 then 0 else 3 := by
        unfold xX7_step
        rw [if_pos (zMk ra), if_pos (zMk rb), if_pos (zSk rw_), if_pos (zRg (by omega) (by omega)), if_pos (zUn0 hab)]
        by_cases q : ni = 1
        · rw [zNP3 q, if_pos q, if_neg z3n]
        · rw [zNP0 q, if_neg q, if_pos rfl]
      by_cases q : ni = 1
      · rw [if_pos q] at xs
        simp only [if_pos q, if_true]
        refine ⟨fun _ _ _ r => absurd rfl r, ?_, keep 3 xs z3n⟩
        unfold rL_does_2
        rw [xs, if_neg z3n, if_neg z31n, if_neg z32n, if_pos rfl]
      · rw [if_neg q] at xs
        by_cases r : size < 12
        · rw [if_pos r] at xs
          have r2 : ¬ (12 : Int32) ≤ size := by
            rw [Int32.le_iff_toInt_le]
            rw [Int32.lt_iff_toInt_lt] at r
            omega
          have r3 := Int32.lt_iff_toInt_lt.mp r
          have c0 := iC.1
          have hn12 : size.toNatClampNeg < 12 := by
            have e := zcn c0
            omega
          simp only [if_neg q, if_neg r2, if_neg z10]
          refine ⟨fun _ _ _ _ => zin_b c0 (by omega), ?_, ?_⟩
          · unfold rL_does_2
            rw [xs, if_pos rfl]
            unfold rX7_step oX0_add_size
            rw [if_neg r2, zuE, if_pos rfl]
          · have k1 := yk_2_0 (ni := ni) (li := li) (mi := mi) (mv := mv) (nx := nx) (al := al) (nc := nc) (nl := nl) kd a b w iC
            have k2 := yk_2_2 (li := li) (mi := mi) (mv := mv) (al := al) (nc := nc) (nl := nl) (ki := ki) (fi := fi) (se := se) (th := th) kd a b w iN
            have es : oL_does_2_size ni li mi mv nx al nc nl ki fi se th size kd a b w = size + 1 := by
              unfold oL_does_2_size
              rw [xs, if_pos rfl]
              unfold oX7_step_size oX0_add_size
              rw [if_neg r2]
            have ek : oL_does_2_ki ni li mi mv nx al nc nl ki fi se th size kd a b w = upd ki size.toNatClampNeg kd := by
              unfold oL_does_2_ki
              rw [xs, if_pos rfl]
              unfold oX7_step_ki oX0_add_ki
              rw [if_neg r2]
            have ef : oL_does_2_fi ni li mi mv nx al nc nl ki fi se th size kd a b w = upd fi size.toNatClampNeg a := by
              unfold oL_does_2_fi
              rw [xs, if_pos rfl]
              unfold oX7_step_fi oX0_add_fi
              rw [if_neg r2]
            have ee : oL_does_2_se ni li mi mv nx al nc nl ki fi se th size kd a b w = upd se size.toNatClampNeg b := by
              unfold oL_does_2_se
              rw [xs, if_pos rfl]
              unfold oX7_step_se oX0_add_se
              rw [if_neg r2]
            have et : oL_does_2_th ni li mi mv nx al nc nl ki fi se th size kd a b w = upd th size.toNatClampNeg w := by
              unfold oL_does_2_th
              rw [xs, if_pos rfl]
              unfold oX7_step_th oX0_add_th
              rw [if_neg r2]
            rw [es, ek, ef, ee, et] at k1
            rw [es] at k2
            rw [es, ek, ef, ee, et]
            refine ⟨⟨k1, iG, k2, iS, iK0, iK, iH0, iH⟩, ⟨kA, kB⟩, ⟨hA, hB⟩, ?_, ⟨hE, hT⟩, hp, ?_⟩
            · intro j hj
              rw [yupd32, yupd32, yupd32, yupd32, yupd32]
              by_cases z : j = size.toNatClampNeg
              · rw [if_pos z, if_pos z, if_pos z, if_pos z, if_pos z]
                rfl
              · rw [if_neg z, if_neg z, if_neg z, if_neg z, if_neg z]
                exact hc j hj
            · refine ⟨zuE _ _ _, ?_, ?_, ?_, ?_, ?_, ?_, ?_, ?_, ?_, ?_, ?_, ?_⟩ <;> (rw [zuN _ _ (by decide)]; assumption)
        · rw [if_neg r] at xs
          have r2 : (12 : Int32) ≤ size := by
            rw [Int32.le_iff_toInt_le]
            rw [Int32.lt_iff_toInt_lt] at r
            omega
          simp only [if_neg q, if_pos r2, if_true]
          refine ⟨fun _ _ _ r => absurd rfl r, ?_, keep 3 xs z3n⟩
          unfold rL_does_2
          rw [xs, if_neg z3n, if_neg z31n, if_neg z32n, if_pos rfl]
    · have e2 : (if (5 : Int32) ≤ kd then (0 : Int32) else (if a = b then 0 else 1)) = 0 := by
        rcases hk with rfl | rk
        · rw [if_pos (by decide)]
        · by_cases hab : a = b
          · rw [if_pos hab]
            split <;> rfl
          · exact absurd ⟨rk, hab⟩ v2
      have xs : xX7_step ni li mi mv nx al nc nl ki fi se th size kd a b w = 2 := by
        unfold xX7_step
        rw [if_pos (zMk ra), if_pos (zMk rb), if_pos (zSk rw_)]
        rcases hk with rfl | rk
        · rw [show xX7_needRange 5 0 4 = 2 by decide, if_neg z2n]
        · have rk2 := vp_in_iff.mp rk
          have e0 : (0 : Int32).toInt = 0 := rfl
          have e4 : (4 : Int32).toInt = 4 := rfl
          rw [if_pos (zRg (by omega) (by omega))]
          by_cases hab : a = b
          · rw [zUn2 hab, if_neg z2n]
          · exact absurd ⟨rk, hab⟩ v2
      simp only [e2, if_true]
      refine ⟨fun _ _ _ r => absurd rfl r, ?_, keep 2 xs z2n⟩
      unfold rL_does_2
      rw [xs, if_neg z2n, if_neg z21n, if_pos rfl, if_pos rfl]
  · have e1 : (if (6 : Int32) ≤ a then (0 : Int32) else (if (4 : Int32) ≤ w then 0 else 1)) = 0 := by
      rcases ha with rfl | ra
      · rw [if_pos (by decide)]
      · rcases hw with rfl | rw_
        · rw [if_pos (show (4 : Int32) ≤ 4 by decide)]
          split <;> rfl
        · exact absurd ⟨ra, rw_⟩ v1
    have xs : xX7_step ni li mi mv nx al nc nl ki fi se th size kd a b w = 1 := by
      unfold xX7_step
      rcases ha with rfl | ra
      · rw [zM6, if_neg z1n]
      · rcases hw with rfl | rw_
        · rw [if_pos (zMk ra), if_pos (zMk rb), zS4, if_neg z1n]
        · exact absurd ⟨ra, rw_⟩ v1
    simp only [e1, if_true]
    refine ⟨fun _ _ _ r => absurd rfl r, ?_, keep 1 xs z1n⟩
    unfold rL_does_2
    rw [xs, if_neg z1n, if_pos rfl, if_pos rfl]
theorem zL710 (ni : Int32)(li : Int32)(mi : Int32)(mv : Int32)(nx : Int32)(al : Int32)(nc : Int32)(nl : Int32)(ki : Nat → Int32)(fi : Nat → Int32)(se : Nat → Int32)(th : Nat → Int32)(size : Int32)(on : Int32)(il : Int32)(ba : Int32)(le : Nat → Int32)(wi : Nat → Int32)(pr : Nat → Int32)(tp : Nat → Int32)(gs : Int32)(ve : Nat → Int32)(vg : Nat → Int32)(p1 : Int32)(p2 : Int32) (hF : ¬ jL_isTold_3_647_0 ni li mi mv nx al nc nl ki fi se th size on il ba le wi pr tp gs ve vg p1 p2 = 0) : ∀ (n : Nat) (v : Nat → Int32) (i : Int32), 0 ≤ i.toInt → 6 - i.toInt < n → (∀ j : Nat, j < 6 → (lL_isTold_3_710_ve1 ni li mi mv nx al nc nl ki fi se th size on il ba le wi pr tp gs ve vg p1 p2 n v i j = v j)) ∧ (∀ j : Nat, j < 6 → (j : Int) < i.toInt → lL_isTold_3_710_ve1 ni li mi mv nx al nc nl ki fi se th size on il ba le wi pr tp gs ve vg p1 p2 n v i (6 + j) = v (6 + j)) ∧ (∀ j : Nat, j < 6 → i.toInt ≤ j → lL_isTold_3_710_ve1 ni li mi mv nx al nc nl ki fi se th size on il ba le wi pr tp gs ve vg p1 p2 n v i (6 + j) = 0) := by
  intro n
  induction n with
  | zero =>
    intro v i h0 h1
    have e6 : (6 : Int32).toInt = 6 := rfl
    rw [lL_isTold_3_710_ve1]
    exact ⟨fun _ _ => rfl, fun _ _ _ => rfl, fun j hj h2 => by omega⟩
  | succ n ih =>
    intro v i h0 h1
    have e6 : (6 : Int32).toInt = 6 := rfl
    rw [lL_isTold_3_710_ve1]
    by_cases hc : (6 : Int32) ≤ i
    · rw [if_pos hc]
      rw [Int32.le_iff_toInt_le] at hc
      exact ⟨fun _ _ => rfl, fun _ _ _ => rfl, fun j hj h2 => by omega⟩
    · rw [if_neg hc, if_neg hF]
      have hI := zInc hc
      have hi : vp_in i 6 := zin_c h0 hc (by decide)
      have hi2 := vp_in_iff.mp hi
      have en := zci hi
      have e := zc6p hi
      obtain ⟨a1, a2, a3⟩ := ih (upd v ((6 : Int32) + i).toNatClampNeg (0 : Int32)) (i + 1) (by omega) (by omega)
      refine ⟨fun j hj => ?_, fun j hj h2 => ?_, fun j hj h2 => ?_⟩
      · rw [a1 j hj, e, zuN _ _ (by omega)]
      · rw [a2 j hj (by omega), e, zuN _ _ (by omega)]
      · by_cases q : (j : Int) = i.toInt
        · rw [a2 j hj (by omega), e, show 6 + j = 6 + i.toNatClampNeg by omega, zuE]
        · exact a3 j hj (by omega)
theorem zfill (f0 : Nat → Int32) : ∀ (n : Nat) (f : Nat → Int32) (i : Int32), 0 ≤ i.toInt → 6 - i.toInt < n → (∀ j : Nat, (j : Int) < i.toInt → f j = 0) → ∀ j : Nat, j < 6 → lJ7_fill_53178_5_f f0 6 0 n f i j = 0 := by
  intro n
  induction n with
  | zero =>
    intro f i h0 h1 hf j hj
    rw [lJ7_fill_53178_5_f]
  | succ n ih =>
    intro f i h0 h1 hf j hj
    rw [lJ7_fill_53178_5_f]
    have e6 : (Int32.ofNat 6).toInt = 6 := by decide
    by_cases hc : Int32.ofNat 6 ≤ i
    · rw [if_pos hc]
      rw [Int32.le_iff_toInt_le] at hc
      exact hf j (by omega)
    · rw [if_neg hc]
      have hI := zInc hc
      have en := zcn h0
      rw [Int32.le_iff_toInt_le] at hc
      refine ih _ (i + 1) (by omega) (by omega) (fun j2 h2 => ?_) j hj
      rw [yupd32]
      by_cases q : j2 = i.toNatClampNeg
      · rw [if_pos q]
      · rw [if_neg q]
        exact hf j2 (by omega)
set_option maxHeartbeats 2000000 in
theorem zT_3 {N : Nat} {ni li mi mv nx al nc nl on il ba size : Int32} {ki fi se th kT hT kn ho kb0 hb0 : Nat → Int32} {gs : Int32} {le wi pr tp pt : Nat → Int32} {fr fb : Nat → Int64} {vk vh vc ve vq vg : Nat → Int32} (h : zRc N ni li mi mv nx al nc nl on il ba size ki fi se th kT hT kn ho kb0 hb0 gs le wi pr tp pt fr fb vk vh vc ve vq vg) (p1 : Int32) (p2 : Int32) (h1 : 0 ≤ p1.toInt) (h2 : 0 ≤ p2.toInt) : rL_isTold_3 ni li mi mv nx al nc nl ki fi se th size on il ba le wi pr tp gs ve vg p1 p2 = 1 ∧ zRc N ni li mi mv nx al nc nl on il (oL_isTold_3_ba ni li mi mv nx al nc nl ki fi se th size on il ba le wi pr tp gs ve vg p1 p2) (oL_isTold_3_size ni li mi mv nx al nc nl ki fi se th size on il ba le wi pr tp gs ve vg p1 p2) ki fi se th kT hT kn ho kb0 hb0 gs le wi pr (oL_isTold_3_tp ni li mi mv nx al nc nl ki fi se th size on il ba le wi pr tp gs ve vg p1 p2) pt fr fb vk vh vc (oL_isTold_3_ve ni li mi mv nx al nc nl ki fi se th size on il ba le wi pr tp gs ve vg p1 p2) vq (oL_isTold_3_vg ni li mi mv nx al nc nl ki fi se th size on il ba le wi pr tp gs ve vg p1 p2) := by
  obtain ⟨⟨iC, iG, iN, iS, iK0, iK, iH0, iH⟩, ⟨kA, kB⟩, ⟨hA, hB⟩, hc, ⟨hE, hT⟩, hp, hg⟩ := h
  have hg' := hg
  obtain ⟨g0, g1, g2, g3, g4, g5, g6, g7, g8, g9, g10, g11, g12⟩ := hg'
  unfold rL_isTold_3 oL_isTold_3_size oL_isTold_3_ba oL_isTold_3_tp oL_isTold_3_ve oL_isTold_3_vg jL_isTold_3_775_0 jL_isTold_3_753_0 jL_isTold_3_698_0 jL_isTold_3_676_0
  have hF : jL_isTold_3_647_0 ni li mi mv nx al nc nl ki fi se th size on il ba le wi pr tp gs ve vg p1 p2 = if ni = 1 then 0 else 1 := by
    unfold jL_isTold_3_647_0
    rw [zN4, g4]
  by_cases hz : zRem p1 2 = 0
  · rw [if_pos hz, if_pos hz, if_pos hz, if_pos hz, if_pos hz, if_pos hz, hF, zN0, g0]
    by_cases q : ni = 1
    · have xs : xX7_tear ni li mi mv nx al nc nl ki fi se th size = 3 := by
        unfold xX7_tear
        rw [zNP3 q, if_neg z3n]
      rw [if_pos q, if_pos rfl, if_pos rfl]
      unfold rL_does_3 oL_does_3_size
      rw [xs, if_neg z3n, if_neg z3n, if_pos rfl]
      refine ⟨rfl, ⟨iC, iG, iN, iS, iK0, iK, iH0, iH⟩, ⟨kA, kB⟩, ⟨hA, hB⟩, hc, ⟨hE, hT⟩, hp, ?_⟩
      refine ⟨zuE _ _ _, ?_, ?_, ?_, ?_, ?_, ?_, ?_, ?_, ?_, ?_, ?_, ?_⟩ <;> (rw [zuN _ _ (by decide)]; assumption)
    · have xs : xX7_tear ni li mi mv nx al nc nl ki fi se th size = 0 := by
        unfold xX7_tear
        rw [zNP0 q, if_pos rfl]
      have k1 := yk_3_0 (ni := ni) (li := li) (mi := mi) (mv := mv) (nx := nx) (al := al) (nc := nc) (nl := nl) 0 0 0 0 iC
      have k2 := yk_3_2 (li := li) (mi := mi) (mv := mv) (al := al) (nc := nc) (nl := nl) (ki := ki) (fi := fi) (se := se) (th := th) 0 0 0 0 iN
      have es : oL_does_3_size ni li mi mv nx al nc nl ki fi se th size 0 0 0 0 = 0 := by
        unfold oL_does_3_size
        rw [xs, if_pos rfl]
        rfl
      rw [es] at k1 k2
      rw [if_neg q, if_neg z10, if_neg z10, es]
      unfold rL_does_3
      rw [xs, if_pos rfl]
      unfold rX7_tear
      refine ⟨if_pos rfl, ⟨k1, iG, k2, iS, iK0, iK, iH0, iH⟩, ⟨kA, kB⟩, ⟨hA, hB⟩, hc, ⟨hE, hT⟩, hp, ?_⟩
      refine ⟨zuE _ _ _, ?_, ?_, ?_, ?_, ?_, ?_, ?_, ?_, ?_, ?_, ?_, ?_⟩ <;> (rw [zuN _ _ (by decide)]; assumption)
  · rw [if_neg hz, if_neg hz, if_neg hz, if_neg hz, if_neg hz, if_neg hz, hF, zN2, g2]
    by_cases q : ni = 1
    · have xs : xL_travelled ni li mi mv nx al nc nl on il ba le wi pr tp gs = 3 := by
        unfold xL_travelled xX7_travel
        rw [zNP3 q, if_neg z3n, if_neg z3n]
      have hl : lL_isTold_3_710_ve1 ni li mi mv nx al nc nl ki fi se th size on il ba le wi pr tp gs ve vg p1 p2 7 ve 0 = ve := by
        rw [lL_isTold_3_710_ve1, if_neg (by decide), hF, if_pos q, if_pos rfl]
      rw [hl, if_pos q, if_pos rfl, if_pos rfl]
      unfold rL_does_6 oL_does_6_ba oL_does_6_tp
      rw [xs, if_neg z3n, if_neg z3n, if_neg z3n, if_pos rfl]
      refine ⟨rfl, ⟨iC, iG, iN, iS, iK0, iK, iH0, iH⟩, ⟨kA, kB⟩, ⟨hA, hB⟩, hc, ⟨hE, hT⟩, hp, ?_⟩
      refine ⟨?_, ?_, zuE _ _ _, ?_, ?_, ?_, ?_, ?_, ?_, ?_, ?_, ?_, ?_⟩ <;> (rw [zuN _ _ (by decide)]; assumption)
    · have xs : xL_travelled ni li mi mv nx al nc nl on il ba le wi pr tp gs = 0 := by
        unfold xL_travelled xX7_travel
        rw [zNP0 q, if_pos rfl, if_pos rfl]
      have hn : ¬ jL_isTold_3_647_0 ni li mi mv nx al nc nl ki fi se th size on il ba le wi pr tp gs ve vg p1 p2 = 0 := by
        rw [hF, if_neg q]
        exact z10
      obtain ⟨a1, a2, a3⟩ := zL710 ni li mi mv nx al nc nl ki fi se th size on il ba le wi pr tp gs ve vg p1 p2 hn 7 ve 0 (by decide) (by decide)
      rw [if_neg q, if_neg z10, if_neg z10]
      unfold rL_does_6 oL_does_6_ba oL_does_6_tp
      rw [xs, if_pos rfl, if_pos rfl, if_pos rfl]
      unfold rL_travelled oL_travelled_ba oL_travelled_tp oX7_travel_ba oX7_travel_tp oX1_beFresh_tp oJ7_fill_53178_f
      refine ⟨if_pos rfl, ⟨iC, iG, iN, iS, iK0, iK, iH0, iH⟩, ⟨kA, kB⟩, ⟨hA, hB⟩, hc, ⟨?_, ?_⟩, hp, ?_⟩
      · intro j hj
        have c1 := iG.2.1
        rw [a1 j (by omega)]
        exact hE j hj
      · intro j hj
        have e0 : (0 : Int32).toInt = 0 := rfl
        rw [a3 j hj (by omega), zfill _ _ _ _ (by decide) (by decide) (fun j2 h2 => by omega) j hj]
        exact ⟨rfl, by omega, by omega⟩
      · refine ⟨?_, ?_, zuE _ _ _, ?_, ?_, ?_, ?_, ?_, ?_, ?_, ?_, ?_, ?_⟩ <;> (rw [zuN _ _ (by decide)]; assumption)
/-! what is told, on -/
set_option maxHeartbeats 2000000 in
theorem zT_4 {N : Nat} {ni li mi mv nx al nc nl on il ba size : Int32} {ki fi se th kT hT kn ho kb0 hb0 : Nat → Int32} {gs : Int32} {le wi pr tp pt : Nat → Int32} {fr fb : Nat → Int64} {vk vh vc ve vq vg : Nat → Int32} (h : zRc N ni li mi mv nx al nc nl on il ba size ki fi se th kT hT kn ho kb0 hb0 gs le wi pr tp pt fr fb vk vh vc ve vq vg) (p1 : Int32) (p2 : Int32) (h1 : 0 ≤ p1.toInt) (h2 : 0 ≤ p2.toInt) : rL_isTold_4 ni li mi mv nx al nc nl on il ba vg p1 p2 = 1 ∧ zRc N ni li mi mv nx al nc nl (oL_isTold_4_on ni li mi mv nx al nc nl on il ba vg p1 p2) (oL_isTold_4_il ni li mi mv nx al nc nl on il ba vg p1 p2) ba size ki fi se th kT hT kn ho kb0 hb0 gs le wi pr tp pt fr fb vk vh vc ve vq (oL_isTold_4_vg ni li mi mv nx al nc nl on il ba vg p1 p2) := by
  obtain ⟨⟨iC, iG, iN, iS, iK0, iK, iH0, iH⟩, ⟨kA, kB⟩, ⟨hA, hB⟩, hc, ⟨hE, hT⟩, hp, hg⟩ := h
  have hm := zpk p1 13 12 6 6 6 rfl (by decide) h1
  have hg' := hg
  obtain ⟨g0, g1, g2, g3, g4, g5, g6, g7, g8, g9, g10, g11, g12⟩ := hg'
  unfold rL_isTold_4 oL_isTold_4_on oL_isTold_4_il oL_isTold_4_vg jL_isTold_4_875_0 jL_isTold_4_844_0 jL_isTold_4_810_0
  generalize hme : (if zRem p1 13 = 12 then (6 : Int32) else zRem p1 6) = m at hm ⊢
  clear hme
  rcases hm with rfl | rm
  · have xs : xX7_ill ni li mi mv nx al nc nl on il ba 6 = 1 := by
      unfold xX7_ill
      rw [zM6, if_neg z1n]
    rw [if_pos (show (6 : Int32) ≤ 6 by decide), if_pos rfl]
    unfold rL_does_4 oL_does_4_on oL_does_4_il
    rw [xs, if_neg z1n, if_neg z1n, if_neg z1n]
    exact ⟨if_pos rfl, ⟨iC, iG, iN, iS, iK0, iK, iH0, iH⟩, ⟨kA, kB⟩, ⟨hA, hB⟩, hc, ⟨hE, hT⟩, hp, hg⟩
  · have xs : xX7_ill ni li mi mv nx al nc nl on il ba m = 0 := by
      unfold xX7_ill
      rw [if_pos (zMk rm)]
    have k1 := yk_4_3 (ni := ni) (li := li) (mi := mi) (mv := mv) (nx := nx) (al := al) (nc := nc) (nl := nl) (ba := ba) m 0 0 0 iS
    have eo : oL_does_4_on ni li mi mv nx al nc nl on il ba m 0 0 0 = on &&& ((il ^^^ ((1 : Int32) <<< (m &&& 31))) ^^^ (-1)) := by
      unfold oL_does_4_on
      rw [xs, if_pos rfl]
      rfl
    have ei : oL_does_4_il ni li mi mv nx al nc nl on il ba m 0 0 0 = il ^^^ ((1 : Int32) <<< (m &&& 31)) := by
      unfold oL_does_4_il
      rw [xs, if_pos rfl]
      rfl
    rw [eo, ei] at k1
    rw [eo, ei, if_neg (znle rm rfl), if_neg (zvne rm rfl), zN1, zN9, zuE, zuN _ _ (show 9 ≠ 1 by decide), zuN _ _ (show 1 ≠ 9 by decide), zuE, g1, g9]
    unfold rL_does_4
    rw [xs, if_pos rfl]
    refine ⟨?_, ⟨iC, iG, iN, k1, iK0, iK, iH0, iH⟩, ⟨kA, kB⟩, ⟨hA, hB⟩, hc, ⟨hE, hT⟩, hp, ?_⟩
    · unfold rX7_ill rX7_isIn
      generalize hx : ((il ^^^ ((1 : Int32) <<< (m &&& 31))) >>> (m &&& 31)) = x
      rcases zAnd1 x with q | q
      · rw [q]
        decide
      · rw [q]
        decide
    · refine ⟨?_, ?_, ?_, ?_, ?_, ?_, ?_, ?_, ?_, zuE _ _ _, ?_, ?_, ?_⟩
      · rw [zuN _ _ (by decide), zuN _ _ (by decide)]; assumption
      · rw [zuN _ _ (by decide), zuE]
      all_goals (rw [zuN _ _ (by decide), zuN _ _ (by decide)]; assumption)
set_option maxHeartbeats 2000000 in
theorem zT_5 {N : Nat} {ni li mi mv nx al nc nl on il ba size : Int32} {ki fi se th kT hT kn ho kb0 hb0 : Nat → Int32} {gs : Int32} {le wi pr tp pt : Nat → Int32} {fr fb : Nat → Int64} {vk vh vc ve vq vg : Nat → Int32} (h : zRc N ni li mi mv nx al nc nl on il ba size ki fi se th kT hT kn ho kb0 hb0 gs le wi pr tp pt fr fb vk vh vc ve vq vg) (p1 : Int32) (p2 : Int32) (h1 : 0 ≤ p1.toInt) (h2 : 0 ≤ p2.toInt) : rL_isTold_5 ni li mi mv nx al nc nl on il ba vg p1 p2 = 1 ∧ zRc N ni li mi mv nx al nc nl on il (oL_isTold_5_ba ni li mi mv nx al nc nl on il ba vg p1 p2) size ki fi se th kT hT kn ho kb0 hb0 gs le wi pr tp pt fr fb vk vh vc ve vq (oL_isTold_5_vg ni li mi mv nx al nc nl on il ba vg p1 p2) := by
  obtain ⟨⟨iC, iG, iN, iS, iK0, iK, iH0, iH⟩, ⟨kA, kB⟩, ⟨hA, hB⟩, hc, ⟨hE, hT⟩, hp, hg⟩ := h
  have hm := zrI p1 5 5 rfl (by decide) h1
  have hg' := hg
  obtain ⟨g0, g1, g2, g3, g4, g5, g6, g7, g8, g9, g10, g11, g12⟩ := hg'
  unfold rL_isTold_5 oL_isTold_5_ba oL_isTold_5_vg jL_isTold_5_947_0 jL_isTold_5_915_0
  generalize hme : zRem p1 5 = m at hm ⊢
  clear hme
  have hm2 := vp_in_iff.mp hm
  have e4 : (4 : Int32).toInt = 4 := rfl
  by_cases q4 : m = 4
  · subst q4
    have xs : xX7_ban ni li mi mv nx al nc nl on il ba 4 = 1 := by
      unfold xX7_ban
      rw [zS4, if_neg z1n]
    rw [if_pos (show (4 : Int32) ≤ 4 by decide), if_pos rfl, zN2, g2, Int32.xor_zero]
    unfold rL_does_5 oL_does_5_ba
    rw [xs, if_neg z1n, if_neg z1n]
    refine ⟨if_pos rfl, ⟨iC, iG, iN, iS, iK0, iK, iH0, iH⟩, ⟨kA, kB⟩, ⟨hA, hB⟩, hc, ⟨hE, hT⟩, hp, ?_⟩
    refine ⟨?_, ?_, zuE _ _ _, ?_, ?_, ?_, ?_, ?_, ?_, ?_, ?_, ?_, ?_⟩ <;> (rw [zuN _ _ (by decide)]; assumption)
  · have rm : vp_in m 4 := zin_b hm2.1 (by
      have h : m.toInt ≠ 4 := fun r => q4 (Int32.toInt_inj.mp (r.trans e4.symm))
      omega)
    have xs : xX7_ban ni li mi mv nx al nc nl on il ba m = 0 := by
      unfold xX7_ban
      rw [if_pos (zSk rm)]
    have ei : oL_does_5_ba ni li mi mv nx al nc nl on il ba m 0 0 0 = ba ^^^ ((1 : Int32) <<< (m &&& 31)) := by
      unfold oL_does_5_ba
      rw [xs, if_pos rfl]
      rfl
    rw [ei, if_neg (znle rm rfl), if_neg q4, zN2, zuE, g2]
    unfold rL_does_5
    rw [xs, if_pos rfl]
    refine ⟨?_, ⟨iC, iG, iN, iS, iK0, iK, iH0, iH⟩, ⟨kA, kB⟩, ⟨hA, hB⟩, hc, ⟨hE, hT⟩, hp, ?_⟩
    · unfold rX7_ban rX7_isIn
      generalize hx : ((ba ^^^ ((1 : Int32) <<< (m &&& 31))) >>> (m &&& 31)) = x
      rcases zAnd1 x with q | q
      · rw [q]
        decide
      · rw [q]
        decide
    · refine ⟨?_, ?_, zuE _ _ _, ?_, ?_, ?_, ?_, ?_, ?_, ?_, ?_, ?_, ?_⟩ <;> (rw [zuN _ _ (by decide)]; assumption)
set_option maxHeartbeats 2000000 in
theorem zT_6 {N : Nat} {ni li mi mv nx al nc nl on il ba size : Int32} {ki fi se th kT hT kn ho kb0 hb0 : Nat → Int32} {gs : Int32} {le wi pr tp pt : Nat → Int32} {fr fb : Nat → Int64} {vk vh vc ve vq vg : Nat → Int32} (h : zRc N ni li mi mv nx al nc nl on il ba size ki fi se th kT hT kn ho kb0 hb0 gs le wi pr tp pt fr fb vk vh vc ve vq vg) (p1 : Int32) (p2 : Int32) (h1 : 0 ≤ p1.toInt) (h2 : 0 ≤ p2.toInt) : (¬ (6 : Int32) = 0 → ¬ (6 : Int32) = (1 : Int32) → ¬ (6 : Int32) = (2 : Int32) → ¬ (6 : Int32) = (3 : Int32) → ¬ (6 : Int32) = (4 : Int32) → ¬ (6 : Int32) = (5 : Int32) → (6 : Int32) = (6 : Int32) → ¬ (jL_isTold_6_1100_0 ni li mi mv nx al nc nl le wi pr tp gs ve vg p1 p2) = 0 → vp_in (vg ((3 : Int32)).toNatClampNeg) 12) ∧ rL_isTold_6 ni li mi mv nx al nc nl le wi pr tp gs ve vg p1 p2 = 1 ∧ zRc N ni li mi mv nx al nc nl on il ba size ki fi se th kT hT kn ho kb0 hb0 (oL_isTold_6_gs ni li mi mv nx al nc nl le wi pr tp gs ve vg p1 p2) (oL_isTold_6_le ni li mi mv nx al nc nl le wi pr tp gs ve vg p1 p2) (oL_isTold_6_wi ni li mi mv nx al nc nl le wi pr tp gs ve vg p1 p2) (oL_isTold_6_pr ni li mi mv nx al nc nl le wi pr tp gs ve vg p1 p2) tp pt fr fb vk vh vc (oL_isTold_6_ve ni li mi mv nx al nc nl le wi pr tp gs ve vg p1 p2) vq (oL_isTold_6_vg ni li mi mv nx al nc nl le wi pr tp gs ve vg p1 p2) := by
  obtain ⟨⟨iC, iG, iN, iS, iK0, iK, iH0, iH⟩, ⟨kA, kB⟩, ⟨hA, hB⟩, hc, ⟨hE, hT⟩, hp, hg⟩ := h
  have e0 : (0 : Int32).toInt = 0 := rfl
  have e1 : (1 : Int32).toInt = 1 := rfl
  have e6 : (6 : Int32).toInt = 6 := rfl
  have e20 : (20 : Int32).toInt = 20 := rfl
  have e21 : (21 : Int32).toInt = 21 := rfl
  have e1000 : (1000 : Int32).toInt = 1000 := rfl
  have e1001 : (1001 : Int32).toInt = 1001 := rfl
  have em : (-1 : Int32).toInt = -1 := rfl
  have hl : vp_in (if zRem p1 9 = 0 then zRem (p1 / (9 : Int32)) 22 else ((1 : Int32) + zRem p1 4)) 22 := by
    by_cases q : zRem p1 9 = 0
    · rw [if_pos q]
      exact zrI _ 22 22 rfl (by decide) (zdv0 (n := 9) rfl (by decide) h1)
    · rw [if_neg q]
      have r := vp_in_iff.mp (zrI p1 4 4 rfl (by decide) h1)
      have e := zaT (a := 1) (b := zRem p1 4) (by omega) (by omega)
      exact zin_b (by omega) (by omega)
  have hw : vp_in (if zRem p2 9 = 0 then (zRem (p2 / (9 : Int32)) 2 * (1001 : Int32)) else zRem p2 1001) 1002 := by
    by_cases q : zRem p2 9 = 0
    · rw [if_pos q]
      have r := vp_in_iff.mp (zrI (p2 / (9 : Int32)) 2 2 rfl (by decide) (zdv0 (n := 9) rfl (by decide) h2))
      rw [Int32.mul_comm]
      have e := zmK (k := 1001) (n := 1001) (b := zRem (p2 / (9 : Int32)) 2) rfl (by omega) (by omega)
      exact zin_b (by omega) (by omega)
    · rw [if_neg q]
      exact zin_le (zrI _ 1001 1001 rfl (by decide) h2) (by decide)
  have hpp : (if zRem (p2 / (9 : Int32)) 15 = 14 then (4 : Int32) else (zRem (p2 / (9 : Int32)) 5 - 1)) = 4 ∨ ((if zRem (p2 / (9 : Int32)) 15 = 14 then (4 : Int32) else (zRem (p2 / (9 : Int32)) 5 - 1)) = -1 ∨ vp_in (if zRem (p2 / (9 : Int32)) 15 = 14 then (4 : Int32) else (zRem (p2 / (9 : Int32)) 5 - 1)) 4) := by
    by_cases q : zRem (p2 / (9 : Int32)) 15 = 14
    · rw [if_pos q]
      exact Or.inl rfl
    · rw [if_neg q]
      have r := vp_in_iff.mp (zrI (p2 / (9 : Int32)) 5 5 rfl (by decide) (zdv0 (n := 9) rfl (by decide) h2))
      have e := zsT (a := zRem (p2 / (9 : Int32)) 5) (b := 1) (by omega) (by omega)
      by_cases z : (zRem (p2 / (9 : Int32)) 5).toInt = 0
      · exact Or.inr (Or.inl (Int32.toInt_inj.mp (by omega)))
      · exact Or.inr (Or.inr (zin_b (by omega) (by omega)))
  have hg' := hg
  obtain ⟨g0, g1, g2, g3, g4, g5, g6, g7, g8, g9, g10, g11, g12⟩ := hg'
  unfold rL_isTold_6 oL_isTold_6_le oL_isTold_6_wi oL_isTold_6_pr oL_isTold_6_gs oL_isTold_6_ve oL_isTold_6_vg jL_isTold_6_1188_0 jL_isTold_6_1138_0 jL_isTold_6_1138_1 jL_isTold_6_1100_0 jL_isTold_6_1073_0 jL_isTold_6_988_0 jL_isTold_6_1018_0 jL_isTold_6_1046_0
  generalize hle : (if zRem p1 9 = 0 then zRem (p1 / (9 : Int32)) 22 else ((1 : Int32) + zRem p1 4)) = l at hl ⊢
  generalize hwe : (if zRem p2 9 = 0 then (zRem (p2 / (9 : Int32)) 2 * (1001 : Int32)) else zRem p2 1001) = w at hw ⊢
  generalize hpe : (if zRem (p2 / (9 : Int32)) 15 = 14 then (4 : Int32) else (zRem (p2 / (9 : Int32)) 5 - 1)) = p at hpp ⊢
  clear hle hwe hpe
  rw [zN3, g3]
  have hl2 := vp_in_iff.mp hl
  have hw2 := vp_in_iff.mp hw
  have keep : ∀ x : Nat, xX7_gag ni li mi mv nx al nc nl le wi pr tp gs l w p = x → ¬ x = 0 → zRc N ni li mi mv nx al nc nl on il ba size ki fi se th kT hT kn ho kb0 hb0 (oL_does_7_gs ni li mi mv nx al nc nl le wi pr tp gs l w p 0) (oL_does_7_le ni li mi mv nx al nc nl le wi pr tp gs l w p 0) (oL_does_7_wi ni li mi mv nx al nc nl le wi pr tp gs l w p 0) (oL_does_7_pr ni li mi mv nx al nc nl le wi pr tp gs l w p 0) tp pt fr fb vk vh vc ve vq vg := by
    intro x q1 q2
    unfold oL_does_7_gs oL_does_7_le oL_does_7_wi oL_does_7_pr
    rw [q1, if_neg q2, if_neg q2, if_neg q2, if_neg q2]
    exact ⟨⟨iC, iG, iN, iS, iK0, iK, iH0, iH⟩, ⟨kA, kB⟩, ⟨hA, hB⟩, hc, ⟨hE, hT⟩, hp, hg⟩
  rcases hpp with rfl | rp
  · have xs : xX7_gag ni li mi mv nx al nc nl le wi pr tp gs l w 4 = 1 := by
      unfold xX7_gag
      rw [if_neg (by decide), zP4, if_neg z1n]
    simp only [if_pos (show (4 : Int32) ≤ 4 by decide), if_true]
    refine ⟨fun _ _ _ _ _ _ _ q => absurd rfl q, ?_, keep 1 xs z1n⟩
    unfold rL_does_7
    rw [xs, if_neg z1n, if_pos rfl, if_pos rfl]
  · have p4 : ¬ (4 : Int32) ≤ p := by
      rcases rp with rfl | rp
      · decide
      · exact znle rp rfl
    have p5 : ¬ p = 4 := by
      rcases rp with rfl | rp
      · decide
      · exact zvne rp rfl
    have xq : xX7_gag ni li mi mv nx al nc nl le wi pr tp gs l w p = qX7_gag_9_x ni li mi mv nx al nc nl le wi pr tp gs l w p := by
      unfold xX7_gag
      by_cases q : p = -1
      · rw [if_pos q]
      · rw [if_neg q, if_pos (zPk (rp.resolve_left q))]
    rw [if_neg p4, if_neg p5]
    by_cases v : (1 ≤ l.toInt ∧ l.toInt ≤ 20) ∧ w.toInt ≤ 1000
    · have f1 : ¬ l ≤ 0 := by
        rw [Int32.le_iff_toInt_le]
        omega
      have f2 : ¬ (21 : Int32) ≤ l := by
        rw [Int32.le_iff_toInt_le]
        omega
      have f3 : ¬ (1001 : Int32) ≤ w := by
        rw [Int32.le_iff_toInt_le]
        omega
      have xs : xX7_gag ni li mi mv nx al nc nl le wi pr tp gs l w p = if gs < 6 then 0 else 3 := by
        rw [xq]
        unfold qX7_gag_9_x
        rw [if_pos (zRg (by omega) (by omega)), if_pos (zRg (by omega) (by omega))]
      rw [if_neg f1, if_neg f2, if_neg f3, if_neg z10, if_neg z10]
      by_cases r : gs < 6
      · rw [if_pos r] at xs
        have r2 : ¬ (6 : Int32) ≤ gs := by
          rw [Int32.le_iff_toInt_le]
          rw [Int32.lt_iff_toInt_lt] at r
          omega
        have r3 := Int32.lt_iff_toInt_lt.mp r
        obtain ⟨c0, c1, c2, c3⟩ := iG
        have en := zcn c0
        have hI := zInc r2
        rw [if_neg r2, if_neg z10, if_neg z10, if_neg z10, zuE]
        have k1 := yk_7_1 (ni := ni) (li := li) (mi := mi) (mv := mv) (nx := nx) (al := al) (nc := nc) (nl := nl) (le := le) (tp := tp) l w p 0 ⟨c0, c1, c2, c3⟩
        have es : oL_does_7_gs ni li mi mv nx al nc nl le wi pr tp gs l w p 0 = gs + 1 := by
          unfold oL_does_7_gs
          rw [xs, if_pos rfl]
          unfold oX7_gag_gs qX7_gag_9_gs oX1_add_gs
          rw [if_pos r]
        have el : oL_does_7_le ni li mi mv nx al nc nl le wi pr tp gs l w p 0 = upd le gs.toNatClampNeg l := by
          unfold oL_does_7_le
          rw [xs, if_pos rfl]
          unfold oX7_gag_le qX7_gag_9_le oX1_add_le
          rw [if_pos r]
        have ew : oL_does_7_wi ni li mi mv nx al nc nl le wi pr tp gs l w p 0 = upd wi gs.toNatClampNeg w := by
          unfold oL_does_7_wi
          rw [xs, if_pos rfl]
          unfold oX7_gag_wi qX7_gag_9_wi oX1_add_wi
          rw [if_pos r]
        have ep : oL_does_7_pr ni li mi mv nx al nc nl le wi pr tp gs l w p 0 = upd pr gs.toNatClampNeg p := by
          unfold oL_does_7_pr
          rw [xs, if_pos rfl]
          unfold oX7_gag_pr qX7_gag_9_pr oX1_add_pr
          rw [if_pos r]
        rw [es, ew, ep] at k1
        rw [es, el, ew, ep]
        refine ⟨fun _ _ _ _ _ _ _ _ => zin_b c0 (by omega), ?_, ⟨iC, k1, iN, iS, iK0, iK, iH0, iH⟩, ⟨kA, kB⟩, ⟨hA, hB⟩, hc, ⟨?_, ?_⟩, hp, ?_⟩
        · unfold rL_does_7
          rw [xs, if_pos rfl]
          unfold rX7_gag qX7_gag_9_r rX1_add
          rw [if_pos r, Int32.add_sub_cancel, if_pos rfl]
        · intro j hj
          rw [yupd32, yupd32, yupd32, yupd32]
          by_cases z : j = gs.toNatClampNeg
          · rw [if_pos z, if_pos z, if_pos z, if_pos z]
            exact ⟨zin_b (by omega) (by omega), rfl⟩
          · rw [if_neg z, if_neg z, if_neg z, if_neg z]
            exact hE j (by omega)
        · intro j hj
          rw [zuN _ _ (by omega)]
          exact hT j hj
        · refine ⟨?_, ?_, ?_, zuE _ _ _, ?_, ?_, ?_, ?_, ?_, ?_, ?_, ?_, ?_⟩ <;> (rw [zuN _ _ (by decide)]; assumption)
      · rw [if_neg r] at xs
        have r2 : (6 : Int32) ≤ gs := by
          rw [Int32.le_iff_toInt_le]
          rw [Int32.lt_iff_toInt_lt] at r
          omega
        simp only [if_pos r2, if_true]
        refine ⟨fun _ _ _ _ _ _ _ q => absurd rfl q, ?_, keep 3 xs z3n⟩
        unfold rL_does_7
        rw [xs, if_neg z3n, if_neg z31n, if_neg z32n, if_pos rfl]
    · have f0 : (if l ≤ 0 then (0 : Int32) else (if (21 : Int32) ≤ l then 0 else (if (1001 : Int32) ≤ w then 0 else 1))) = 0 := by
        by_cases f1 : l ≤ 0
        · rw [if_pos f1]
        · rw [if_neg f1]
          by_cases f2 : (21 : Int32) ≤ l
          · rw [if_pos f2]
          · rw [if_neg f2]
            by_cases f3 : (1001 : Int32) ≤ w
            · rw [if_pos f3]
            · rw [Int32.le_iff_toInt_le] at f1 f2 f3
              exact absurd ⟨⟨by omega, by omega⟩, by omega⟩ v
      have xs : xX7_gag ni li mi mv nx al nc nl le wi pr tp gs l w p = 2 := by
        rw [xq]
        unfold qX7_gag_9_x
        by_cases v1 : 1 ≤ l.toInt ∧ l.toInt ≤ 20
        · rw [if_pos (zRg (by omega) (by omega)), zRg2 (fun q => v ⟨v1, by omega⟩), if_neg z2n]
        · rw [zRg2 (fun q => v1 ⟨by omega, by omega⟩), if_neg z2n]
      simp only [f0, if_true]
      refine ⟨fun _ _ _ _ _ _ _ q => absurd rfl q, ?_, keep 2 xs z2n⟩
      unfold rL_does_7
      rw [xs, if_neg z2n, if_neg z21n, if_pos rfl, if_pos rfl]
set_option maxHeartbeats 2000000 in
theorem zT_7 {N : Nat} {ni li mi mv nx al nc nl on il ba size : Int32} {ki fi se th kT hT kn ho kb0 hb0 : Nat → Int32} {gs : Int32} {le wi pr tp pt : Nat → Int32} {fr fb : Nat → Int64} {vk vh vc ve vq vg : Nat → Int32} (h : zRc N ni li mi mv nx al nc nl on il ba size ki fi se th kT hT kn ho kb0 hb0 gs le wi pr tp pt fr fb vk vh vc ve vq vg) (p1 : Int32) (p2 : Int32) (h1 : 0 ≤ p1.toInt) (h2 : 0 ≤ p2.toInt) : (¬ (7 : Int32) = 0 → ¬ (7 : Int32) = (1 : Int32) → ¬ (7 : Int32) = (2 : Int32) → ¬ (7 : Int32) = (3 : Int32) → ¬ (7 : Int32) = (4 : Int32) → ¬ (7 : Int32) = (5 : Int32) → ¬ (7 : Int32) = (6 : Int32) → ¬ (6 : Int32) ≤ (jL_isTold_7_1217_0 ni li mi mv nx al nc nl pt vq p1 p2) → vp_in (jL_isTold_7_1217_0 ni li mi mv nx al nc nl pt vq p1 p2) 7) ∧ (¬ (7 : Int32) = 0 → ¬ (7 : Int32) = (1 : Int32) → ¬ (7 : Int32) = (2 : Int32) → ¬ (7 : Int32) = (3 : Int32) → ¬ (7 : Int32) = (4 : Int32) → ¬ (7 : Int32) = (5 : Int32) → ¬ (7 : Int32) = (6 : Int32) → vp_in (jL_isTold_7_1279_0 ni li mi mv nx al nc nl pt vq p1 p2) 7) ∧ rL_isTold_7 ni li mi mv nx al nc nl pt vq p1 p2 = 1 ∧ zRc N ni li mi mv nx al nc nl on il ba size ki fi se th kT hT kn ho kb0 hb0 gs le wi pr tp (oL_isTold_7_pt ni li mi mv nx al nc nl pt vq p1 p2) fr fb vk vh vc ve (oL_isTold_7_vq ni li mi mv nx al nc nl pt vq p1 p2) vg := by
  obtain ⟨⟨iC, iG, iN, iS, iK0, iK, iH0, iH⟩, ⟨kA, kB⟩, ⟨hA, hB⟩, hc, ⟨hE, hT⟩, hp, hg⟩ := h
  have e0 : (0 : Int32).toInt = 0 := rfl
  have e100 : (100 : Int32).toInt = 100 := rfl
  have e101 : (101 : Int32).toInt = 101 := rfl
  have hm := zpk p1 13 12 6 6 6 rfl (by decide) h1
  have hq := zrI p2 102 102 rfl (by decide) h2
  unfold rL_isTold_7 oL_isTold_7_pt oL_isTold_7_vq jL_isTold_7_1318_0 jL_isTold_7_1279_0 jL_isTold_7_1256_0 jL_isTold_7_1217_0 jL_isTold_7_1238_0
  generalize hme : (if zRem p1 13 = 12 then (6 : Int32) else zRem p1 6) = m at hm ⊢
  generalize hqe : zRem p2 102 = q at hq ⊢
  clear hme hqe
  have hq2 := vp_in_iff.mp hq
  rcases hm with rfl | rm
  · have xs : xX7_points ni li mi mv nx al nc nl pt 6 q = 1 := by
      unfold xX7_points
      rw [zM6, if_neg z1n]
    unfold rL_does_8 oL_does_8_pt
    rw [xs, if_neg z1n, if_pos rfl, if_neg z1n, if_pos rfl, if_pos (show (6 : Int32) ≤ 6 by decide), zN6]
    refine ⟨fun _ _ _ _ _ _ _ r => absurd (by decide) r, fun _ _ _ _ _ _ _ => by unfold vp_in; decide, if_pos rfl, ⟨iC, iG, iN, iS, iK0, iK, iH0, iH⟩, ⟨kA, kB⟩, ⟨hA, hB⟩, hc, ⟨hE, hT⟩, ?_, hg⟩
    intro j hj
    rw [zuN _ _ (by omega)]
    exact hp j hj
  · rw [if_neg (znle rm rfl), if_neg (znle rm rfl), if_neg (zvne rm rfl)]
    by_cases v : (101 : Int32) ≤ q
    · have v2 := v
      rw [Int32.le_iff_toInt_le] at v2
      have xs : xX7_points ni li mi mv nx al nc nl pt m q = 2 := by
        unfold xX7_points
        rw [if_pos (zMk rm), zRg2 (by omega), if_neg z2n]
      unfold rL_does_8 oL_does_8_pt
      rw [xs, if_neg z2n, if_neg z21n, if_neg z2n, if_pos v, if_pos rfl, if_pos rfl, zN6]
      refine ⟨fun _ _ _ _ _ _ _ _ => zin_67 rm, fun _ _ _ _ _ _ _ => by unfold vp_in; decide, if_pos rfl, ⟨iC, iG, iN, iS, iK0, iK, iH0, iH⟩, ⟨kA, kB⟩, ⟨hA, hB⟩, hc, ⟨hE, hT⟩, ?_, hg⟩
      intro j hj
      rw [zuN _ _ (by omega)]
      exact hp j hj
    · have v2 := v
      rw [Int32.le_iff_toInt_le] at v2
      have xs : xX7_points ni li mi mv nx al nc nl pt m q = 0 := by
        unfold xX7_points
        rw [if_pos (zMk rm), if_pos (zRg (by omega) (by omega))]
      unfold rL_does_8 oL_does_8_pt
      rw [xs, if_pos rfl, if_pos rfl, if_neg v, if_neg z10, if_neg z10]
      unfold rX7_points oX7_points_pt
      refine ⟨fun _ _ _ _ _ _ _ _ => zin_67 rm, fun _ _ _ _ _ _ _ => zin_67 rm, if_pos (hp _ (zin_lt rm)).symm, ⟨iC, iG, iN, iS, iK0, iK, iH0, iH⟩, ⟨kA, kB⟩, ⟨hA, hB⟩, hc, ⟨hE, hT⟩, ?_, hg⟩
      intro j hj
      rw [yupd32, yupd32]
      by_cases z : j = m.toNatClampNeg
      · rw [if_pos z, if_pos z]
      · rw [if_neg z, if_neg z]
        exact hp j hj
/-! a night begins -/
theorem zL110 (ni : Int32)(li : Int32)(mi : Int32)(mv : Int32)(nx : Int32)(al : Int32)(nc : Int32)(nl : Int32)(ki : Nat → Int32)(fi : Nat → Int32)(se : Nat → Int32)(th : Nat → Int32)(size : Int32)(on : Int32)(il : Int32)(ba : Int32)(kn : Nat → Int32)(ho : Nat → Int32)(kb0 : Nat → Int32)(hb0 : Nat → Int32)(vk : Nat → Int32)(vh : Nat → Int32)(vg : Nat → Int32)(p1 : Int32) : ∀ (n : Nat) (v w : Nat → Int32) (i : Int32), 0 ≤ i.toInt → i.toInt ≤ 24 → 24 - i.toInt < n → (∀ j : Nat, j < 4 → (j : Int) < i.toInt → w (4 + j) = w j) →
    ((∀ j : Nat, j < 24 → lL_isNight_110_vk1 ni li mi mv nx al nc nl ki fi se th size on il ba kn ho kb0 hb0 vk vh vg p1 n v w i j = v j) ∧ (∀ j : Nat, j < 24 → (j : Int) < i.toInt → lL_isNight_110_vk1 ni li mi mv nx al nc nl ki fi se th size on il ba kn ho kb0 hb0 vk vh vg p1 n v w i (24 + j) = v (24 + j)) ∧ (∀ j : Nat, j < 24 → i.toInt ≤ j → lL_isNight_110_vk1 ni li mi mv nx al nc nl ki fi se th size on il ba kn ho kb0 hb0 vk vh vg p1 n v w i (24 + j) = v j)) ∧ ((∀ j : Nat, j < 4 → lL_isNight_110_vh1 ni li mi mv nx al nc nl ki fi se th size on il ba kn ho kb0 hb0 vk vh vg p1 n v w i j = w j) ∧ (∀ j : Nat, j < 4 → lL_isNight_110_vh1 ni li mi mv nx al nc nl ki fi se th size on il ba kn ho kb0 hb0 vk vh vg p1 n v w i (4 + j) = w j)) := by
  intro n
  induction n with
  | zero =>
    intro v w i h0 h1 h2
    omega
  | succ n ih =>
    intro v w i h0 h1 h2 hw
    rw [lL_isNight_110_vk1, lL_isNight_110_vh1]
    have e24 : (24 : Int32).toInt = 24 := rfl
    by_cases hc : (24 : Int32) ≤ i
    · rw [if_pos hc, if_pos hc]
      rw [Int32.le_iff_toInt_le] at hc
      exact ⟨⟨fun _ _ => rfl, fun _ _ _ => rfl, fun j hj h3 => by omega⟩, fun _ _ => rfl, fun j hj => hw j hj (by omega)⟩
    · rw [if_neg hc, if_neg hc]
      have hI := zInc hc
      have hi : vp_in i 24 := zin_c h0 hc (by decide)
      have hi2 := vp_in_iff.mp hi
      have en := zci hi
      have er := zrK (a := i) (b := 4) (n := 4) rfl h0 (by decide)
      have er2 := zci (zr4 hi)
      have er4 := zin_lt (zr4 hi)
      rw [zc24p hi, zc4p (zr4 hi)]
      obtain ⟨⟨a1, a2, a3⟩, b1, b2⟩ := ih (upd v (24 + i.toNatClampNeg) (v i.toNatClampNeg)) (upd w (4 + (zRem i (4 : Int32)).toNatClampNeg) (w (zRem i (4 : Int32)).toNatClampNeg)) (i + 1) (by omega) (by omega) (by omega) (fun j hj h3 => by
        rw [yupd32, yupd32]
        by_cases q : j = (zRem i (4 : Int32)).toNatClampNeg
        · rw [if_pos (by omega), if_neg (by omega), q]
        · rw [if_neg (by omega), if_neg (by omega)]
          exact hw j hj (by omega))
      refine ⟨⟨fun j hj => ?_, fun j hj h3 => ?_, fun j hj h3 => ?_⟩, fun j hj => ?_, fun j hj => ?_⟩
      · rw [a1 j hj, zuN _ _ (by omega)]
      · rw [a2 j hj (by omega), zuN _ _ (by omega)]
      · by_cases q : (j : Int) = i.toInt
        · rw [a2 j hj (by omega), show j = i.toNatClampNeg by omega, zuE]
        · rw [a3 j hj (by omega), zuN _ _ (by omega)]
      · rw [b1 j hj, zuN _ _ (by omega)]
      · rw [b2 j hj, zuN _ _ (by omega)]
set_option maxHeartbeats 2000000 in
theorem zT_N {N : Nat} {ni li mi mv nx al nc nl on il ba size : Int32} {ki fi se th kT hT kn ho kb0 hb0 : Nat → Int32} {gs : Int32} {le wi pr tp pt : Nat → Int32} {fr fb : Nat → Int64} {vk vh vc ve vq vg : Nat → Int32} (h : zRc N ni li mi mv nx al nc nl on il ba size ki fi se th kT hT kn ho kb0 hb0 gs le wi pr tp pt fr fb vk vh vc ve vq vg) (p1 : Int32) (h1 : 0 ≤ p1.toInt) : rL_isNight ni li mi mv nx al nc nl ki fi se th size on il ba kn ho kb0 hb0 vk vh vg p1 = 1 ∧ zRc N (oL_isNight_ni ni li mi mv nx al nc nl ki fi se th size on il ba kn ho kb0 hb0 vk vh vg p1) (oL_isNight_li ni li mi mv nx al nc nl ki fi se th size on il ba kn ho kb0 hb0 vk vh vg p1) (oL_isNight_mi ni li mi mv nx al nc nl ki fi se th size on il ba kn ho kb0 hb0 vk vh vg p1) (oL_isNight_mv ni li mi mv nx al nc nl ki fi se th size on il ba kn ho kb0 hb0 vk vh vg p1) (oL_isNight_nx ni li mi mv nx al nc nl ki fi se th size on il ba kn ho kb0 hb0 vk vh vg p1) al nc nl (oL_isNight_on ni li mi mv nx al nc nl ki fi se th size on il ba kn ho kb0 hb0 vk vh vg p1) il ba size ki fi se th kT hT (oL_isNight_kn ni li mi mv nx al nc nl ki fi se th size on il ba kn ho kb0 hb0 vk vh vg p1) (oL_isNight_ho ni li mi mv nx al nc nl ki fi se th size on il ba kn ho kb0 hb0 vk vh vg p1) kb0 hb0 gs le wi pr tp pt fr fb (oL_isNight_vk ni li mi mv nx al nc nl ki fi se th size on il ba kn ho kb0 hb0 vk vh vg p1) (oL_isNight_vh ni li mi mv nx al nc nl ki fi se th size on il ba kn ho kb0 hb0 vk vh vg p1) vc ve vq (oL_isNight_vg ni li mi mv nx al nc nl ki fi se th size on il ba kn ho kb0 hb0 vk vh vg p1) := by
  obtain ⟨⟨iC, iG, iN, iS, iK0, iK, iH0, iH⟩, ⟨kA, kB⟩, ⟨hA, hB⟩, hc, ⟨hE, hT⟩, hp, hg⟩ := h
  have e0 : (0 : Int32).toInt = 0 := rfl
  have e1 : (1 : Int32).toInt = 1 := rfl
  have e20 : (20 : Int32).toInt = 20 := rfl
  have e100 : (100 : Int32).toInt = 100 := rfl
  have e101 : (101 : Int32).toInt = 101 := rfl
  have hl : vp_in (if zRem p1 9 = 0 then zRem (p1 / (9 : Int32)) 102 else ((20 : Int32) + zRem p1 60)) 102 := by
    by_cases q : zRem p1 9 = 0
    · rw [if_pos q]
      exact zrI _ 102 102 rfl (by decide) (zdv0 (n := 9) rfl (by decide) h1)
    · rw [if_neg q]
      have r := vp_in_iff.mp (zrI p1 60 60 rfl (by decide) h1)
      have e := zaT (a := 20) (b := zRem p1 60) (by omega) (by omega)
      exact zin_b (by omega) (by omega)
  have hg' := hg
  obtain ⟨g0, g1, g2, g3, g4, g5, g6, g7, g8, g9, g10, g11, g12⟩ := hg'
  have c0 := iC.1
  unfold rL_isNight oL_isNight_ni oL_isNight_li oL_isNight_mi oL_isNight_mv oL_isNight_nx oL_isNight_on oL_isNight_kn oL_isNight_ho oL_isNight_vk oL_isNight_vh oL_isNight_vg jL_isNight_180_0 jL_isNight_148_0 jL_isNight_148_1 jL_isNight_148_2 jL_isNight_71_0 jL_isNight_46_0 jL_isNight_27_0
  generalize hle : (if zRem p1 9 = 0 then zRem (p1 / (9 : Int32)) 102 else ((20 : Int32) + zRem p1 60)) = l at hl ⊢
  clear hle
  rw [zN4, g4, zN0, g0]
  have hl2 := vp_in_iff.mp hl
  have keep : ∀ x : Nat, xX7_night ni li mi mv nx al nc nl ki fi se th size on il ba kn ho kb0 hb0 l = x → ¬ x = 0 → (oL_does_9_ni ni li mi mv nx al nc nl ki fi se th size on il ba kn ho kb0 hb0 l 0 0 0 = ni ∧ oL_does_9_li ni li mi mv nx al nc nl ki fi se th size on il ba kn ho kb0 hb0 l 0 0 0 = li ∧ oL_does_9_mi ni li mi mv nx al nc nl ki fi se th size on il ba kn ho kb0 hb0 l 0 0 0 = mi ∧ oL_does_9_mv ni li mi mv nx al nc nl ki fi se th size on il ba kn ho kb0 hb0 l 0 0 0 = mv ∧ oL_does_9_nx ni li mi mv nx al nc nl ki fi se th size on il ba kn ho kb0 hb0 l 0 0 0 = nx ∧ oL_does_9_on ni li mi mv nx al nc nl ki fi se th size on il ba kn ho kb0 hb0 l 0 0 0 = on ∧ oL_does_9_kn ni li mi mv nx al nc nl ki fi se th size on il ba kn ho kb0 hb0 l 0 0 0 = kn ∧ oL_does_9_ho ni li mi mv nx al nc nl ki fi se th size on il ba kn ho kb0 hb0 l 0 0 0 = ho) := by
    intro x q1 q2
    unfold oL_does_9_ni oL_does_9_li oL_does_9_mi oL_does_9_mv oL_does_9_nx oL_does_9_on oL_does_9_kn oL_does_9_ho
    rw [yb9, q1]
    simp only [if_neg q2]
    exact ⟨trivial, trivial, trivial, trivial, trivial, trivial, trivial, trivial⟩
  have R0 : zRc N ni li mi mv nx al nc nl on il ba size ki fi se th kT hT kn ho kb0 hb0 gs le wi pr tp pt fr fb vk vh vc ve vq vg := ⟨⟨iC, iG, iN, iS, iK0, iK, iH0, iH⟩, ⟨kA, kB⟩, ⟨hA, hB⟩, hc, ⟨hE, hT⟩, hp, hg⟩
  by_cases v : 1 ≤ l.toInt ∧ l.toInt ≤ 100
  · have f1 : ¬ l ≤ 0 := by
      rw [Int32.le_iff_toInt_le]
      omega
    have f2 : ¬ (101 : Int32) ≤ l := by
      rw [Int32.le_iff_toInt_le]
      omega
    have xs : xX7_night ni li mi mv nx al nc nl ki fi se th size on il ba kn ho kb0 hb0 l = if ni = 1 then 3 else if size = 0 then 3 else 0 := by
      unfold xX7_night
      rw [if_pos (zRg (by omega) (by omega))]
      by_cases q : ni = 1
      · rw [zNP3 q, if_neg z3n, if_pos q]
      · rw [zNP0 q, if_pos rfl, if_neg q]
    rw [if_neg f1, if_neg f2, if_neg z10, if_neg z10]
    by_cases q : ni = 1
    · rw [if_pos q] at xs
      obtain ⟨k1, k2, k3, k4, k5, k6, k7, k8⟩ := keep 3 xs z3n
      rw [k1, k2, k3, k4, k5, k6, k7, k8]
      simp only [if_pos q, if_true]
      refine ⟨?_, R0⟩
      unfold rL_does_9
      rw [yb9, xs, if_neg z3n, if_neg z32n, if_pos rfl]
    · rw [if_neg q] at xs
      by_cases r : size = 0
      · rw [if_pos r] at xs
        obtain ⟨k1, k2, k3, k4, k5, k6, k7, k8⟩ := keep 3 xs z3n
        rw [k1, k2, k3, k4, k5, k6, k7, k8]
        have r2 : size ≤ 0 := by
          rw [r]
          decide
        simp only [if_neg q, if_pos r2, if_true]
        refine ⟨?_, R0⟩
        unfold rL_does_9
        rw [yb9, xs, if_neg z3n, if_neg z32n, if_pos rfl]
      · rw [if_neg r] at xs
        have r2 : ¬ size ≤ 0 := by
          rw [Int32.le_iff_toInt_le]
          have h : size.toInt ≠ 0 := fun z => r (Int32.toInt_inj.mp (z.trans e0.symm))
          omega
        simp only [if_neg q, if_neg r2, if_neg z10]
        have i2 := yk_9_2 (li := li) (mi := mi) (mv := mv) (al := al) (nc := nc) (nl := nl) (on := on) (il := il) (ba := ba) (kn := kn) (ho := ho) (kb0 := kb0) (hb0 := hb0) l 0 0 0 iC iN
        have i3 := yk_9_3 (ni := ni) (li := li) (mi := mi) (mv := mv) (nx := nx) (al := al) (nc := nc) (nl := nl) (ba := ba) (size := size) (ki := ki) (fi := fi) (se := se) (th := th) (kn := kn) (ho := ho) (kb0 := kb0) (hb0 := hb0) l 0 0 0 iS
        have i5 := yk_9_5 (ni := ni) (li := li) (mi := mi) (mv := mv) (nx := nx) (al := al) (nc := nc) (nl := nl) (on := on) (il := il) (ba := ba) (size := size) (ki := ki) (fi := fi) (se := se) (th := th) (ho := ho) (hb0 := hb0) l 0 0 0 iK0 iK
        have i7 := yk_9_7 (ni := ni) (li := li) (mi := mi) (mv := mv) (nx := nx) (al := al) (nc := nc) (nl := nl) (on := on) (il := il) (ba := ba) (size := size) (ki := ki) (fi := fi) (se := se) (th := th) (kn := kn) (kb0 := kb0) l 0 0 0 iH0 iH
        have k : oL_does_9_ni ni li mi mv nx al nc nl ki fi se th size on il ba kn ho kb0 hb0 l 0 0 0 = 1 ∧ oL_does_9_li ni li mi mv nx al nc nl ki fi se th size on il ba kn ho kb0 hb0 l 0 0 0 = l ∧ oL_does_9_mi ni li mi mv nx al nc nl ki fi se th size on il ba kn ho kb0 hb0 l 0 0 0 = 0 ∧ oL_does_9_mv ni li mi mv nx al nc nl ki fi se th size on il ba kn ho kb0 hb0 l 0 0 0 = 0 ∧ oL_does_9_nx ni li mi mv nx al nc nl ki fi se th size on il ba kn ho kb0 hb0 l 0 0 0 = 0 ∧ oL_does_9_on ni li mi mv nx al nc nl ki fi se th size on il ba kn ho kb0 hb0 l 0 0 0 = 0 ∧ oL_does_9_kn ni li mi mv nx al nc nl ki fi se th size on il ba kn ho kb0 hb0 l 0 0 0 = va_cpy kb0 kn 0 0 4 ∧ oL_does_9_ho ni li mi mv nx al nc nl ki fi se th size on il ba kn ho kb0 hb0 l 0 0 0 = va_cpy hb0 ho 0 0 4 := by
          unfold oL_does_9_ni oL_does_9_li oL_does_9_mi oL_does_9_mv oL_does_9_nx oL_does_9_on oL_does_9_kn oL_does_9_ho
          rw [yb9, xs]
          exact ⟨rfl, rfl, rfl, rfl, rfl, rfl, rfl, rfl⟩
        obtain ⟨k1, k2, k3, k4, k5, k6, k7, k8⟩ := k
        rw [k1, k5] at i2
        rw [k6] at i3
        rw [k7] at i5
        rw [k8] at i7
        rw [k1, k2, k3, k4, k5, k6, k7, k8]
        obtain ⟨⟨a1, a2, a3⟩, b1, b2⟩ := zL110 ni li mi mv nx al nc nl ki fi se th size on il ba kn ho kb0 hb0 vk vh vg p1 25 vk vh 0 (by decide) (by decide) (by decide) (fun j _ h3 => by omega)
        refine ⟨?_, ⟨iC, iG, i2, i3, iK0, i5, iH0, i7⟩, ⟨?_, ?_⟩, ⟨?_, ?_⟩, hc, ⟨hE, hT⟩, hp, ?_⟩
        · unfold rL_does_9
          rw [yb9, xs, if_pos rfl]
          exact if_pos rfl
        · intro m s hm hs
          rw [a1 _ (by omega)]
          exact kA m s hm hs
        · rw [if_neg z10]
          intro m s hm hs
          show zB (lL_isNight_110_vk1 ni li mi mv nx al nc nl ki fi se th size on il ba kn ho kb0 hb0 vk vh vg p1 25 vk vh 0 (24 + (4 * m + s))) (yi (va_cpy kb0 kn 0 0 4 s) m)
          rw [a3 _ (by omega) (by omega), ycp4 _ _ hs]
          exact kA m s hm hs
        · intro s hs
          rw [b1 _ hs]
          exact hA s hs
        · rw [if_neg z10]
          intro s hs
          show lL_isNight_110_vh1 ni li mi mv nx al nc nl ki fi se th size on il ba kn ho kb0 hb0 vk vh vg p1 25 vk vh 0 (4 + s) = va_cpy hb0 ho 0 0 4 s + 1
          rw [b2 _ hs, ycp4 _ _ hs]
          exact hA s hs
        · rw [zN5, zN6, zN7, zN8, zN9]
          refine ⟨?_, ?_, ?_, ?_, ?_, ?_, ?_, ?_, ?_, ?_, ?_, ?_, ?_⟩ <;> simp only [yupd32] <;> first | rfl | (simp; assumption)
  · have f0 : (if l ≤ 0 then (0 : Int32) else (if (101 : Int32) ≤ l then 0 else 1)) = 0 := by
      by_cases f1 : l ≤ 0
      · rw [if_pos f1]
      · rw [if_neg f1]
        by_cases f2 : (101 : Int32) ≤ l
        · rw [if_pos f2]
        · rw [Int32.le_iff_toInt_le] at f1 f2
          exact absurd ⟨by omega, by omega⟩ v
    have xs : xX7_night ni li mi mv nx al nc nl ki fi se th size on il ba kn ho kb0 hb0 l = 2 := by
      unfold xX7_night
      rw [zRg2 (fun q => v ⟨by omega, by omega⟩), if_neg z2n]
    obtain ⟨k1, k2, k3, k4, k5, k6, k7, k8⟩ := keep 2 xs z2n
    rw [k1, k2, k3, k4, k5, k6, k7, k8]
    simp only [f0, if_true]
    refine ⟨?_, R0⟩
    unfold rL_does_9
    rw [yb9, xs, if_neg z2n, if_pos rfl, if_pos rfl]
/-! moves: the law and the class -/
theorem zEMn {ni li mi mv nx al nc nl size : Int32} {ki fi se th : Nat → Int32} {d : Int32} (h : ni = 1) : ¬ oX7_endMove_ni ni li mi mv nx al nc nl ki fi se th size d = 0 := by
  subst h
  unfold oX7_endMove_ni oX7_passMinutes_ni jX7_endMove_53_0
  repeat' split
  all_goals decide
theorem zIJ {ki fi se th : Nat → Int32} {size nx : Int32} (h0 : 0 ≤ nx.toInt) (h1 : nx.toInt < size.toInt) (k a b w : Int32) : rX0_isJust ki fi se th size nx k a b w = (if ki nx.toNatClampNeg = k then (if k = 2 then (if fi nx.toNatClampNeg = a then 1 else 0) else (if k = 3 then (if fi nx.toNatClampNeg = a then 1 else 0) else (if k = 4 then (if jX0_isJust_50_0 ki fi se th size nx k a b w = 0 then (if fi nx.toNatClampNeg = b then (if se nx.toNatClampNeg = a then 1 else 0) else 0) else 1) else (if jX0_isJust_50_0 ki fi se th size nx k a b w = 0 then 0 else (if th nx.toNatClampNeg = w then 1 else 0))))) else 0) := by
  unfold rX0_isJust
  rw [if_neg (ynn h0), if_neg (show ¬ size ≤ nx by rw [Int32.le_iff_toInt_le]; omega)]
theorem zorI (x y : Int32) {k : Int32} (hk : vp_in k 6) : rX7_isIn (x ||| y) k = 0 ↔ (rX7_isIn x k = 0 ∧ rX7_isIn y k = 0) := by
  rw [yi_is0 hk, yi_is0 hk, yi_is0 hk, yi_or]
  exact ⟨fun q => ⟨fun r => q (Or.inl r), fun r => q (Or.inr r)⟩, fun q r => r.elim q.1 q.2⟩
theorem zandm1 (x : Int32) : x &&& (-1) = x := by
  apply yi_ext
  intro m hm
  rw [yi_and]
  exact ⟨fun q => q.1, fun q => ⟨q, yi_m1 m hm⟩⟩
set_option maxHeartbeats 2000000 in
theorem zT_m0 {N : Nat} {ni li mi mv nx al nc nl on il ba size : Int32} {ki fi se th kT hT kn ho kb0 hb0 : Nat → Int32} {gs : Int32} {le wi pr tp pt : Nat → Int32} {fr fb : Nat → Int64} {vk vh vc ve vq vg : Nat → Int32} (h : zRc N ni li mi mv nx al nc nl on il ba size ki fi se th kT hT kn ho kb0 hb0 gs le wi pr tp pt fr fb vk vh vc ve vq vg) (p1 : Int32) (p2 : Int32) (h1 : 0 ≤ p1.toInt) (h2 : 0 ≤ p2.toInt) : (¬ (jL_isMove_0_13_0 ni li mi mv nx al nc nl ki fi se th size on il ba vc vg p1 p2) = 0 → vp_in (vg ((7 : Int32)).toNatClampNeg) 13) ∧ rL_isMove_0 ni li mi mv nx al nc nl ki fi se th size on il ba vc vg p1 p2 = 1 ∧ zRc (N + 1) (oL_isMove_0_ni ni li mi mv nx al nc nl ki fi se th size on il ba vc vg p1 p2) li (oL_isMove_0_mi ni li mi mv nx al nc nl ki fi se th size on il ba vc vg p1 p2) (oL_isMove_0_mv ni li mi mv nx al nc nl ki fi se th size on il ba vc vg p1 p2) (oL_isMove_0_nx ni li mi mv nx al nc nl ki fi se th size on il ba vc vg p1 p2) al (oL_isMove_0_nc ni li mi mv nx al nc nl ki fi se th size on il ba vc vg p1 p2) (oL_isMove_0_nl ni li mi mv nx al nc nl ki fi se th size on il ba vc vg p1 p2) (oL_isMove_0_on ni li mi mv nx al nc nl ki fi se th size on il ba vc vg p1 p2) il ba size ki fi se th kT hT kn ho kb0 hb0 gs le wi pr tp pt fr fb vk vh vc ve vq (oL_isMove_0_vg ni li mi mv nx al nc nl ki fi se th size on il ba vc vg p1 p2) := by
  obtain ⟨⟨iC, iG, iN, iS, iK0, iK, iH0, iH⟩, ⟨kA, kB⟩, ⟨hA, hB⟩, hc, ⟨hE, hT⟩, hp, hg⟩ := h
  have hT := zJt_le hT (Nat.le_succ N)
  have hg' := hg
  obtain ⟨g0, g1, g2, g3, g4, g5, g6, g7, g8, g9, g10, g11, g12⟩ := hg'
  obtain ⟨aA, aB, aW, aP, aS, aI⟩ := zArgs hg hc iC iN (p1 := p1) (p2 := p2) h1
  have c0 := iC.1
  have c1 := iC.2.1
  have h26 : ¬ zPL vg = 0 → vp_in (vg ((7 : Int32)).toNatClampNeg) 13 := by
    intro q
    have r : ni = 1 := Classical.byContradiction (fun r => q (aP.mpr r))
    obtain ⟨n0, n1⟩ := iN r
    rw [zN7, g7]
    exact zin_b n0 (by omega)
  have R0 : zRc (N + 1) ni li mi mv nx al nc nl on il ba size ki fi se th kT hT kn ho kb0 hb0 gs le wi pr tp pt fr fb vk vh vc ve vq vg := ⟨⟨iC, iG, iN, iS, iK0, iK, iH0, iH⟩, ⟨kA, kB⟩, ⟨hA, hB⟩, hc, ⟨hE, hT⟩, hp, hg⟩
  unfold rL_isMove_0 oL_isMove_0_on oL_isMove_0_ni oL_isMove_0_mi oL_isMove_0_mv oL_isMove_0_nx oL_isMove_0_nc oL_isMove_0_nl oL_isMove_0_vg jL_isMove_0_356_0 jL_isMove_0_356_1 jL_isMove_0_293_0 jL_isMove_0_348_0 jL_isMove_0_274_0 jL_isMove_0_232_0 jL_isMove_0_218_0
  have e88 : jL_isMove_0_88_0 ni li mi mv nx al nc nl ki fi se th size on il ba vc vg p1 p2 = zAa vg vc p1 p2 := rfl
  have e114 : jL_isMove_0_114_0 ni li mi mv nx al nc nl ki fi se th size on il ba vc vg p1 p2 = zBb vg vc p1 p2 := rfl
  have e154 : jL_isMove_0_154_0 ni li mi mv nx al nc nl ki fi se th size on il ba vc vg p1 p2 = zWw vg vc p1 p2 := rfl
  have e13 : jL_isMove_0_13_0 ni li mi mv nx al nc nl ki fi se th size on il ba vc vg p1 p2 = zPL vg := rfl
  have e31 : jL_isMove_0_31_0 ni li mi mv nx al nc nl ki fi se th size on il ba vc vg p1 p2 = zST vg vc := rfl
  have e181 : jL_isMove_0_181_0 ni li mi mv nx al nc nl ki fi se th size on il ba vc vg p1 p2 = zSA vg vc p1 p2 := rfl
  have e50 : jL_isMove_0_50_0 ni li mi mv nx al nc nl ki fi se th size on il ba vc vg p1 p2 = zNE vg p2 := rfl
  simp only [e88, e114, e154, e13, e31, e181, e50]
  clear e88 e114 e154 e13 e31 e181 e50
  generalize zAa vg vc p1 p2 = a at aA aI ⊢
  generalize zBb vg vc p1 p2 = b at aB ⊢
  generalize zWw vg vc p1 p2 = w at aW ⊢
  generalize zSA vg vc p1 p2 = sa at aI ⊢
  generalize zST vg vc = st at aS ⊢
  generalize hM : (if zNE vg p2 = 0 then a else (if sa = 0 then a else b)) = m
  have hm : m = 6 ∨ vp_in m 6 := by
    rw [← hM]
    split
    · exact aA
    · split
      · exact aA
      · exact Or.inr aB
  clear hM
  have keep : ∀ x : Nat, xX7_enter ni li mi mv nx al nc nl ki fi se th size on il ba m = x → ¬ x = 0 → (oL_does_10_on ni li mi mv nx al nc nl ki fi se th size on il ba m 0 0 0 = on ∧ oL_does_10_ni ni li mi mv nx al nc nl ki fi se th size on il ba m 0 0 0 = ni ∧ oL_does_10_mi ni li mi mv nx al nc nl ki fi se th size on il ba m 0 0 0 = mi ∧ oL_does_10_mv ni li mi mv nx al nc nl ki fi se th size on il ba m 0 0 0 = mv ∧ oL_does_10_nx ni li mi mv nx al nc nl ki fi se th size on il ba m 0 0 0 = nx ∧ oL_does_10_nc ni li mi mv nx al nc nl ki fi se th size on il ba m 0 0 0 = nc ∧ oL_does_10_nl ni li mi mv nx al nc nl ki fi se th size on il ba m 0 0 0 = nl) := by
    intro x q1 q2
    unfold oL_does_10_on oL_does_10_ni oL_does_10_mi oL_does_10_mv oL_does_10_nx oL_does_10_nc oL_does_10_nl
    rw [q1]
    simp only [if_neg q2]
    exact ⟨trivial, trivial, trivial, trivial, trivial, trivial, trivial⟩
  refine ⟨h26, ?_⟩
  rw [zN1, zN9, g1, g9, zLI, zLI]
  rcases hm with rfl | rm
  · have xs : xX7_enter ni li mi mv nx al nc nl ki fi se th size on il ba 6 = 1 := by
      unfold xX7_enter
      rw [zM6, if_neg z1n]
    obtain ⟨k0, k1, k2, k3, k4, k5, k6⟩ := keep 1 xs z1n
    rw [k0, k1, k2, k3, k4, k5, k6]
    simp only [if_pos (show (6 : Int32) ≤ 6 by decide), if_true]
    refine ⟨?_, R0⟩
    unfold rL_does_10
    rw [xs, if_neg z1n, if_pos rfl, if_pos rfl]
  · simp only [if_neg (znle rm (c := 6) rfl), if_neg z10]
    by_cases q : ni = 1
    · have hpl : ¬ zPL vg = 0 := fun r => (aP.mp r) q
      have x0 : xX7_enter ni li mi mv nx al nc nl ki fi se th size on il ba m = if rX7_isIn (il ||| on) m = 0 then 0 else 3 := by
        unfold xX7_enter
        rw [if_pos (zMk rm), if_pos (zPL0 q)]
      rw [if_neg hpl]
      by_cases v : rX7_isIn il m = 0 ∧ rX7_isIn on m = 0
      · obtain ⟨v1, v2⟩ := v
        have xs : xX7_enter ni li mi mv nx al nc nl ki fi se th size on il ba m = 0 := by rw [x0, if_pos ((zorI il on rm).mpr ⟨v1, v2⟩)]
        simp only [if_pos v1, if_pos v2, if_neg z10]
        obtain ⟨n0, n1⟩ := iN q
        have hn : nx.toNatClampNeg < 12 := by
          have e := zcn n0
          omega
        obtain ⟨_, _, r2, r3, r4, r5, _⟩ := iC
        have ed : rX0_isJust ki fi se th size nx 2 m (-1) (-1) = (if zRem st (8 : Int32) = (2 : Int32) then (if zRem (st / (8 : Int32)) (8 : Int32) = m then (1 : Int32) else (0 : Int32)) else (0 : Int32)) := by
          rw [aS q, zcd_k (r2 _ hn) (r3 _ hn) (r4 _ hn) (r5 _ hn), zcd_a (r2 _ hn) (r3 _ hn) (r4 _ hn) (r5 _ hn), zIJ n0 n1, if_pos (show (2 : Int32) = 2 from rfl)]
        generalize (if zRem st (8 : Int32) = (2 : Int32) then (if zRem (st / (8 : Int32)) (8 : Int32) = m then (1 : Int32) else (0 : Int32)) else (0 : Int32)) = d at ed ⊢
        have hd : d = 0 ∨ d = 1 := by
          rw [← ed, zIJ n0 n1]
          repeat' split
          all_goals first | exact Or.inl rfl | exact Or.inr rfl
        have hg2 : zJg (upd vg 9 (on ||| ((1 : Int32) <<< (m &&& 31)))) ni li mi mv nx al nc nl (on ||| ((1 : Int32) <<< (m &&& 31))) il ba size gs := by
          refine ⟨?_, ?_, ?_, ?_, ?_, ?_, ?_, ?_, ?_, zuE _ _ _, ?_, ?_, ?_⟩ <;> (rw [zuN _ _ (by decide)]; assumption)
        obtain ⟨M1, M2⟩ := zMV ki fi se th hg2 q n0 n1 c1 hd
        have k : oL_does_10_on ni li mi mv nx al nc nl ki fi se th size on il ba m 0 0 0 = (on ||| ((1 : Int32) <<< (m &&& 31))) ∧ oL_does_10_ni ni li mi mv nx al nc nl ki fi se th size on il ba m 0 0 0 = oX7_endMove_ni ni li mi mv nx al nc nl ki fi se th size d ∧ oL_does_10_mi ni li mi mv nx al nc nl ki fi se th size on il ba m 0 0 0 = oX7_endMove_mi ni li mi mv nx al nc nl ki fi se th size d ∧ oL_does_10_mv ni li mi mv nx al nc nl ki fi se th size on il ba m 0 0 0 = oX7_endMove_mv ni li mi mv nx al nc nl ki fi se th size d ∧ oL_does_10_nx ni li mi mv nx al nc nl ki fi se th size on il ba m 0 0 0 = oX7_endMove_nx ni li mi mv nx al nc nl ki fi se th size d ∧ oL_does_10_nc ni li mi mv nx al nc nl ki fi se th size on il ba m 0 0 0 = oX7_endMove_nc ni li mi mv nx al nc nl ki fi se th size d ∧ oL_does_10_nl ni li mi mv nx al nc nl ki fi se th size on il ba m 0 0 0 = oX7_endMove_nl ni li mi mv nx al nc nl ki fi se th size d := by
          unfold oL_does_10_on oL_does_10_ni oL_does_10_mi oL_does_10_mv oL_does_10_nx oL_does_10_nc oL_does_10_nl oX7_enter_on oX7_enter_ni oX7_enter_mi oX7_enter_mv oX7_enter_nx oX7_enter_nc oX7_enter_nl
          rw [xs, ed]
          exact ⟨rfl, rfl, rfl, rfl, rfl, rfl, rfl⟩
        obtain ⟨k0, k1, k2, k3, k4, k5, k6⟩ := k
        have i2 := yk_10_2 (li := li) (mi := mi) (mv := mv) (al := al) (nc := nc) (nl := nl) (on := on) (il := il) (ba := ba) m 0 0 0 ⟨c0, c1, r2, r3, r4, r5, by assumption⟩ iN
        have i3 := yk_10_3 (ni := ni) (li := li) (mi := mi) (mv := mv) (nx := nx) (al := al) (nc := nc) (nl := nl) (ba := ba) (size := size) (ki := ki) (fi := fi) (se := se) (th := th) m 0 0 0 iS
        rw [k1, k4] at i2
        rw [k0] at i3
        rw [k0, k1, k2, k3, k4, k5, k6]
        have q0 : ¬ ni = 0 := by
          rw [q]
          exact z10
        rw [if_neg q0] at kB hB
        refine ⟨?_, ⟨⟨c0, c1, r2, r3, r4, r5, by assumption⟩, iG, i2, i3, iK0, iK, iH0, iH⟩, ⟨kA, ?_⟩, ⟨hA, ?_⟩, hc, ⟨hE, hT⟩, hp, M1⟩
        · unfold rL_does_10 rX7_enter
          rw [xs, if_pos rfl, ed, M2]
          exact if_pos rfl
        · rw [if_neg (zEMn q)]
          exact kB
        · rw [if_neg (zEMn q)]
          exact hB
      · have xs : xX7_enter ni li mi mv nx al nc nl ki fi se th size on il ba m = 3 := by rw [x0, if_neg (fun r => v ((zorI il on rm).mp r))]
        have f0 : (if rX7_isIn il m = 0 then (if rX7_isIn on m = 0 then (1 : Int32) else 0) else 0) = 0 := by
          by_cases v1 : rX7_isIn il m = 0
          · by_cases v2 : rX7_isIn on m = 0
            · exact absurd ⟨v1, v2⟩ v
            · rw [if_pos v1, if_neg v2]
          · rw [if_neg v1]
        obtain ⟨k0, k1, k2, k3, k4, k5, k6⟩ := keep 3 xs z3n
        rw [k0, k1, k2, k3, k4, k5, k6]
        simp only [f0, if_true]
        refine ⟨?_, R0⟩
        unfold rL_does_10
        rw [xs, if_neg z3n, if_neg z31n, if_pos rfl]
    · have hpl : zPL vg = 0 := aP.mpr q
      have xs : xX7_enter ni li mi mv nx al nc nl ki fi se th size on il ba m = 3 := by
        unfold xX7_enter
        rw [if_pos (zMk rm), zPL3 q, if_neg z3n]
      obtain ⟨k0, k1, k2, k3, k4, k5, k6⟩ := keep 3 xs z3n
      rw [k0, k1, k2, k3, k4, k5, k6]
      simp only [if_pos hpl, if_true]
      refine ⟨?_, R0⟩
      unfold rL_does_10
      rw [xs, if_neg z3n, if_neg z31n, if_pos rfl]
set_option maxHeartbeats 2000000 in
theorem zT_m3 {N : Nat} {ni li mi mv nx al nc nl on il ba size : Int32} {ki fi se th kT hT kn ho kb0 hb0 : Nat → Int32} {gs : Int32} {le wi pr tp pt : Nat → Int32} {fr fb : Nat → Int64} {vk vh vc ve vq vg : Nat → Int32} (h : zRc N ni li mi mv nx al nc nl on il ba size ki fi se th kT hT kn ho kb0 hb0 gs le wi pr tp pt fr fb vk vh vc ve vq vg) (p1 : Int32) (p2 : Int32) (h1 : 0 ≤ p1.toInt) (h2 : 0 ≤ p2.toInt) : (¬ (jL_isMove_3_13_0 ni li mi mv nx al nc nl ki fi se th size on il ba vc vg p1 p2) = 0 → vp_in (vg ((7 : Int32)).toNatClampNeg) 13) ∧ rL_isMove_3 ni li mi mv nx al nc nl ki fi se th size on il ba vc vg p1 p2 = 1 ∧ zRc (N + 1) (oL_isMove_3_ni ni li mi mv nx al nc nl ki fi se th size on il ba vc vg p1 p2) li (oL_isMove_3_mi ni li mi mv nx al nc nl ki fi se th size on il ba vc vg p1 p2) (oL_isMove_3_mv ni li mi mv nx al nc nl ki fi se th size on il ba vc vg p1 p2) (oL_isMove_3_nx ni li mi mv nx al nc nl ki fi se th size on il ba vc vg p1 p2) al (oL_isMove_3_nc ni li mi mv nx al nc nl ki fi se th size on il ba vc vg p1 p2) (oL_isMove_3_nl ni li mi mv nx al nc nl ki fi se th size on il ba vc vg p1 p2) (oL_isMove_3_on ni li mi mv nx al nc nl ki fi se th size on il ba vc vg p1 p2) il ba size ki fi se th kT hT kn ho kb0 hb0 gs le wi pr tp pt fr fb vk vh vc ve vq (oL_isMove_3_vg ni li mi mv nx al nc nl ki fi se th size on il ba vc vg p1 p2) := by
  obtain ⟨⟨iC, iG, iN, iS, iK0, iK, iH0, iH⟩, ⟨kA, kB⟩, ⟨hA, hB⟩, hc, ⟨hE, hT⟩, hp, hg⟩ := h
  have hT := zJt_le hT (Nat.le_succ N)
  have hg' := hg
  obtain ⟨g0, g1, g2, g3, g4, g5, g6, g7, g8, g9, g10, g11, g12⟩ := hg'
  obtain ⟨aA, aB, aW, aP, aS, aI⟩ := zArgs hg hc iC iN (p1 := p1) (p2 := p2) h1
  have c0 := iC.1
  have c1 := iC.2.1
  have h26 : ¬ zPL vg = 0 → vp_in (vg ((7 : Int32)).toNatClampNeg) 13 := by
    intro q
    have r : ni = 1 := Classical.byContradiction (fun r => q (aP.mpr r))
    obtain ⟨n0, n1⟩ := iN r
    rw [zN7, g7]
    exact zin_b n0 (by omega)
  have R0 : zRc (N + 1) ni li mi mv nx al nc nl on il ba size ki fi se th kT hT kn ho kb0 hb0 gs le wi pr tp pt fr fb vk vh vc ve vq vg := ⟨⟨iC, iG, iN, iS, iK0, iK, iH0, iH⟩, ⟨kA, kB⟩, ⟨hA, hB⟩, hc, ⟨hE, hT⟩, hp, hg⟩
  unfold rL_isMove_3 oL_isMove_3_on oL_isMove_3_ni oL_isMove_3_mi oL_isMove_3_mv oL_isMove_3_nx oL_isMove_3_nc oL_isMove_3_nl oL_isMove_3_vg jL_isMove_3_476_0 jL_isMove_3_476_1 jL_isMove_3_468_0 jL_isMove_3_409_0 jL_isMove_3_386_0
  have e88 : jL_isMove_3_88_0 ni li mi mv nx al nc nl ki fi se th size on il ba vc vg p1 p2 = zAa vg vc p1 p2 := rfl
  have e114 : jL_isMove_3_114_0 ni li mi mv nx al nc nl ki fi se th size on il ba vc vg p1 p2 = zBb vg vc p1 p2 := rfl
  have e154 : jL_isMove_3_154_0 ni li mi mv nx al nc nl ki fi se th size on il ba vc vg p1 p2 = zWw vg vc p1 p2 := rfl
  have e13 : jL_isMove_3_13_0 ni li mi mv nx al nc nl ki fi se th size on il ba vc vg p1 p2 = zPL vg := rfl
  have e31 : jL_isMove_3_31_0 ni li mi mv nx al nc nl ki fi se th size on il ba vc vg p1 p2 = zST vg vc := rfl
  have e181 : jL_isMove_3_181_0 ni li mi mv nx al nc nl ki fi se th size on il ba vc vg p1 p2 = zSA vg vc p1 p2 := rfl
  have e50 : jL_isMove_3_50_0 ni li mi mv nx al nc nl ki fi se th size on il ba vc vg p1 p2 = zNE vg p2 := rfl
  simp only [e88, e114, e154, e13, e31, e181, e50]
  clear e88 e114 e154 e13 e31 e181 e50
  generalize zAa vg vc p1 p2 = a at aA aI ⊢
  generalize zBb vg vc p1 p2 = b at aB ⊢
  generalize zWw vg vc p1 p2 = w at aW ⊢
  generalize zSA vg vc p1 p2 = sa at aI ⊢
  generalize zST vg vc = st at aS ⊢
  have keep : ∀ x : Nat, xX7_exit ni li mi mv nx al nc nl ki fi se th size on il ba a = x → ¬ x = 0 → (oL_does_11_on ni li mi mv nx al nc nl ki fi se th size on il ba a 0 0 0 = on ∧ oL_does_11_ni ni li mi mv nx al nc nl ki fi se th size on il ba a 0 0 0 = ni ∧ oL_does_11_mi ni li mi mv nx al nc nl ki fi se th size on il ba a 0 0 0 = mi ∧ oL_does_11_mv ni li mi mv nx al nc nl ki fi se th size on il ba a 0 0 0 = mv ∧ oL_does_11_nx ni li mi mv nx al nc nl ki fi se th size on il ba a 0 0 0 = nx ∧ oL_does_11_nc ni li mi mv nx al nc nl ki fi se th size on il ba a 0 0 0 = nc ∧ oL_does_11_nl ni li mi mv nx al nc nl ki fi se th size on il ba a 0 0 0 = nl) := by
    intro x q1 q2
    unfold oL_does_11_on oL_does_11_ni oL_does_11_mi oL_does_11_mv oL_does_11_nx oL_does_11_nc oL_does_11_nl
    rw [q1]
    simp only [if_neg q2]
    exact ⟨trivial, trivial, trivial, trivial, trivial, trivial, trivial⟩
  refine ⟨h26, ?_⟩
  rw [zN9, g9]
  have same : upd vg 9 (on &&& (-1)) = vg := by rw [zandm1, ← g9, zUpS]
  by_cases v : ni = 1 ∧ vp_in a 6 ∧ ¬ rX7_isIn on a = 0
  · obtain ⟨q, ra, v1⟩ := v
    have hpl : ¬ zPL vg = 0 := fun r => (aP.mp r) q
    have hsa : ¬ sa = 0 := fun r => (aI.mp r).elim (zvne ra rfl) v1
    have xs : xX7_exit ni li mi mv nx al nc nl ki fi se th size on il ba a = 0 := by
      unfold xX7_exit
      rw [if_pos (zMk ra), if_pos (zPL0 q), if_pos (zOn0 v1)]
    simp only [if_neg (zvne ra (c := 6) rfl), if_neg hpl, if_neg hsa, if_neg z10]
    obtain ⟨n0, n1⟩ := iN q
    have hn : nx.toNatClampNeg < 12 := by
      have e := zcn n0
      omega
    obtain ⟨_, _, r2, r3, r4, r5, _⟩ := iC
    have ed : rX0_isJust ki fi se th size nx 3 a (-1) (-1) = (if zRem st (8 : Int32) = (3 : Int32) then (if zRem (st / (8 : Int32)) (8 : Int32) = a then (1 : Int32) else (0 : Int32)) else (0 : Int32)) := by
      rw [aS q, zcd_k (r2 _ hn) (r3 _ hn) (r4 _ hn) (r5 _ hn), zcd_a (r2 _ hn) (r3 _ hn) (r4 _ hn) (r5 _ hn), zIJ n0 n1, if_neg (show ¬ (3 : Int32) = 2 by decide), if_pos (show (3 : Int32) = 3 from rfl)]
    generalize (if zRem st (8 : Int32) = (3 : Int32) then (if zRem (st / (8 : Int32)) (8 : Int32) = a then (1 : Int32) else (0 : Int32)) else (0 : Int32)) = d at ed ⊢
    have hd : d = 0 ∨ d = 1 := by
      rw [← ed, zIJ n0 n1]
      repeat' split
      all_goals first | exact Or.inl rfl | exact Or.inr rfl
    have hg2 : zJg (upd vg 9 (on &&& (((1 : Int32) <<< (a &&& 31)) ^^^ (-1)))) ni li mi mv nx al nc nl (on &&& (((1 : Int32) <<< (a &&& 31)) ^^^ (-1))) il ba size gs := by
      refine ⟨?_, ?_, ?_, ?_, ?_, ?_, ?_, ?_, ?_, zuE _ _ _, ?_, ?_, ?_⟩ <;> (rw [zuN _ _ (by decide)]; assumption)
    obtain ⟨M1, M2⟩ := zMV ki fi se th hg2 q n0 n1 c1 hd
    have k : oL_does_11_on ni li mi mv nx al nc nl ki fi se th size on il ba a 0 0 0 = (on &&& (((1 : Int32) <<< (a &&& 31)) ^^^ (-1))) ∧ oL_does_11_ni ni li mi mv nx al nc nl ki fi se th size on il ba a 0 0 0 = oX7_endMove_ni ni li mi mv nx al nc nl ki fi se th size d ∧ oL_does_11_mi ni li mi mv nx al nc nl ki fi se th size on il ba a 0 0 0 = oX7_endMove_mi ni li mi mv nx al nc nl ki fi se th size d ∧ oL_does_11_mv ni li mi mv nx al nc nl ki fi se th size on il ba a 0 0 0 = oX7_endMove_mv ni li mi mv nx al nc nl ki fi se th size d ∧ oL_does_11_nx ni li mi mv nx al nc nl ki fi se th size on il ba a 0 0 0 = oX7_endMove_nx ni li mi mv nx al nc nl ki fi se th size d ∧ oL_does_11_nc ni li mi mv nx al nc nl ki fi se th size on il ba a 0 0 0 = oX7_endMove_nc ni li mi mv nx al nc nl ki fi se th size d ∧ oL_does_11_nl ni li mi mv nx al nc nl ki fi se th size on il ba a 0 0 0 = oX7_endMove_nl ni li mi mv nx al nc nl ki fi se th size d := by
      unfold oL_does_11_on oL_does_11_ni oL_does_11_mi oL_does_11_mv oL_does_11_nx oL_does_11_nc oL_does_11_nl oX7_exit_on oX7_exit_ni oX7_exit_mi oX7_exit_mv oX7_exit_nx oX7_exit_nc oX7_exit_nl
      rw [xs, ed]
      exact ⟨rfl, rfl, rfl, rfl, rfl, rfl, rfl⟩
    obtain ⟨k0, k1, k2, k3, k4, k5, k6⟩ := k
    have i2 := yk_11_2 (li := li) (mi := mi) (mv := mv) (al := al) (nc := nc) (nl := nl) (on := on) (il := il) (ba := ba) a 0 0 0 ⟨c0, c1, r2, r3, r4, r5, by assumption⟩ iN
    have i3 := yk_11_3 (ni := ni) (li := li) (mi := mi) (mv := mv) (nx := nx) (al := al) (nc := nc) (nl := nl) (ba := ba) (size := size) (ki := ki) (fi := fi) (se := se) (th := th) a 0 0 0 iS
    rw [k1, k4] at i2
    rw [k0] at i3
    rw [k0, k1, k2, k3, k4, k5, k6]
    have q0 : ¬ ni = 0 := by
      rw [q]
      exact z10
    rw [if_neg q0] at kB hB
    refine ⟨?_, ⟨⟨c0, c1, r2, r3, r4, r5, by assumption⟩, iG, i2, i3, iK0, iK, iH0, iH⟩, ⟨kA, ?_⟩, ⟨hA, ?_⟩, hc, ⟨hE, hT⟩, hp, M1⟩
    · unfold rL_does_11 rX7_exit
      rw [xs, if_pos rfl, ed, M2]
      exact if_pos rfl
    · rw [if_neg (zEMn q)]
      exact kB
    · rw [if_neg (zEMn q)]
      exact hB
  · have f0 : (if zPL vg = 0 then (0 : Int32) else (if sa = 0 then (0 : Int32) else (1 : Int32))) = 0 := by
      by_cases q : ni = 1
      · have hsa : sa = 0 := aI.mpr (by
          rcases aA with r | r
          · exact Or.inl r
          · exact Or.inr (Classical.byContradiction (fun z => v ⟨q, r, z⟩)))
        rw [if_pos hsa]
        split <;> rfl
      · rw [if_pos (aP.mpr q)]
    simp only [f0, if_true, same]
    rcases aA with rfl | ra
    · have xs : xX7_exit ni li mi mv nx al nc nl ki fi se th size on il ba 6 = 1 := by
        unfold xX7_exit
        rw [zM6, if_neg z1n]
      obtain ⟨k0, k1, k2, k3, k4, k5, k6⟩ := keep 1 xs z1n
      rw [k0, k1, k2, k3, k4, k5, k6]
      simp only [if_true, ite_self]
      refine ⟨?_, R0⟩
      unfold rL_does_11
      rw [xs, if_neg z1n, if_pos rfl, if_pos rfl]
    · have xs : xX7_exit ni li mi mv nx al nc nl ki fi se th size on il ba a = 3 := by
        unfold xX7_exit
        rw [if_pos (zMk ra)]
        by_cases q : ni = 1
        · rw [if_pos (zPL0 q), zOn3 (Classical.byContradiction (fun z => v ⟨q, ra, z⟩)), if_neg z3n]
        · rw [zPL3 q, if_neg z3n]
      obtain ⟨k0, k1, k2, k3, k4, k5, k6⟩ := keep 3 xs z3n
      rw [k0, k1, k2, k3, k4, k5, k6]
      simp only [if_neg (zvne ra (c := 6) rfl)]
      refine ⟨?_, R0⟩
      unfold rL_does_11
      rw [xs, if_neg z3n, if_neg z31n, if_pos rfl]
/-! moves, on -/
set_option maxHeartbeats 2000000 in
theorem zT_m6 {N : Nat} {ni li mi mv nx al nc nl on il ba size : Int32} {ki fi se th kT hT kn ho kb0 hb0 : Nat → Int32} {gs : Int32} {le wi pr tp pt : Nat → Int32} {fr fb : Nat → Int64} {vk vh vc ve vq vg : Nat → Int32} (h : zRc N ni li mi mv nx al nc nl on il ba size ki fi se th kT hT kn ho kb0 hb0 gs le wi pr tp pt fr fb vk vh vc ve vq vg) (p1 : Int32) (p2 : Int32) (h1 : 0 ≤ p1.toInt) (h2 : 0 ≤ p2.toInt) : (¬ (jL_isMove_6_13_0 ni li mi mv nx al nc nl ki fi se th size on il ba kn ho vh vc vg p1 p2) = 0 → vp_in (vg ((7 : Int32)).toNatClampNeg) 13) ∧ ((3 : Int32) ≤ (6 : Int32) → ¬ (6 : Int32) = (3 : Int32) → (6 : Int32) ≤ (6 : Int32) → ¬ (8 : Int32) ≤ (6 : Int32) → ¬ (jL_isMove_6_827_0 ni li mi mv nx al nc nl ki fi se th size on il ba kn ho vh vc vg p1 p2) = 0 → ¬ (jL_isMove_6_841_0 ni li mi mv nx al nc nl ki fi se th size on il ba kn ho vh vc vg p1 p2) = 0 → ¬ (jL_isMove_6_13_0 ni li mi mv nx al nc nl ki fi se th size on il ba kn ho vh vc vg p1 p2) = 0 → ¬ (jL_isMove_6_181_0 ni li mi mv nx al nc nl ki fi se th size on il ba kn ho vh vc vg p1 p2) = 0 → ¬ (rL_isIn (vg ((9 : Int32)).toNatClampNeg) (jL_isMove_6_114_0 ni li mi mv nx al nc nl ki fi se th size on il ba kn ho vh vc vg p1 p2)) = 0 → vp_in ((4 : Int32) + (jL_isMove_6_154_0 ni li mi mv nx al nc nl ki fi se th size on il ba kn ho vh vc vg p1 p2)) 9) ∧ ((3 : Int32) ≤ (6 : Int32) → ¬ (6 : Int32) = (3 : Int32) → (6 : Int32) ≤ (6 : Int32) → ¬ (8 : Int32) ≤ (6 : Int32) → vp_in (jL_isMove_6_903_0 ni li mi mv nx al nc nl ki fi se th size on il ba kn ho vh vc vg p1 p2) 9) ∧ rL_isMove_6 ni li mi mv nx al nc nl ki fi se th size on il ba kn ho vh vc vg p1 p2 = 1 ∧ zRc (N + 1) (oL_isMove_6_ni ni li mi mv nx al nc nl ki fi se th size on il ba kn ho vh vc vg p1 p2) li (oL_isMove_6_mi ni li mi mv nx al nc nl ki fi se th size on il ba kn ho vh vc vg p1 p2) (oL_isMove_6_mv ni li mi mv nx al nc nl ki fi se th size on il ba kn ho vh vc vg p1 p2) (oL_isMove_6_nx ni li mi mv nx al nc nl ki fi se th size on il ba kn ho vh vc vg p1 p2) al (oL_isMove_6_nc ni li mi mv nx al nc nl ki fi se th size on il ba kn ho vh vc vg p1 p2) (oL_isMove_6_nl ni li mi mv nx al nc nl ki fi se th size on il ba kn ho vh vc vg p1 p2) on il ba size ki fi se th kT hT kn (oL_isMove_6_ho ni li mi mv nx al nc nl ki fi se th size on il ba kn ho vh vc vg p1 p2) kb0 hb0 gs le wi pr tp pt fr fb vk (oL_isMove_6_vh ni li mi mv nx al nc nl ki fi se th size on il ba kn ho vh vc vg p1 p2) vc ve vq (oL_isMove_6_vg ni li mi mv nx al nc nl ki fi se th size on il ba kn ho vh vc vg p1 p2) := by
  obtain ⟨⟨iC, iG, iN, iS, iK0, iK, iH0, iH⟩, ⟨kA, kB⟩, ⟨hA, hB⟩, hc, ⟨hE, hT⟩, hp, hg⟩ := h
  have hT := zJt_le hT (Nat.le_succ N)
  have hg' := hg
  obtain ⟨g0, g1, g2, g3, g4, g5, g6, g7, g8, g9, g10, g11, g12⟩ := hg'
  obtain ⟨aA, aB, aW, aP, aS, aI⟩ := zArgs hg hc iC iN (p1 := p1) (p2 := p2) h1
  have c0 := iC.1
  have c1 := iC.2.1
  have h26 : ¬ zPL vg = 0 → vp_in (vg ((7 : Int32)).toNatClampNeg) 13 := by
    intro q
    have r : ni = 1 := Classical.byContradiction (fun r => q (aP.mpr r))
    obtain ⟨n0, n1⟩ := iN r
    rw [zN7, g7]
    exact zin_b n0 (by omega)
  have R0 : zRc (N + 1) ni li mi mv nx al nc nl on il ba size ki fi se th kT hT kn ho kb0 hb0 gs le wi pr tp pt fr fb vk vh vc ve vq vg := ⟨⟨iC, iG, iN, iS, iK0, iK, iH0, iH⟩, ⟨kA, kB⟩, ⟨hA, hB⟩, hc, ⟨hE, hT⟩, hp, hg⟩
  unfold rL_isMove_6 oL_isMove_6_ho oL_isMove_6_ni oL_isMove_6_mi oL_isMove_6_mv oL_isMove_6_nx oL_isMove_6_nc oL_isMove_6_nl oL_isMove_6_vh oL_isMove_6_vg jL_isMove_6_986_0 jL_isMove_6_986_1 jL_isMove_6_903_0 jL_isMove_6_978_0 jL_isMove_6_886_0 jL_isMove_6_841_0 jL_isMove_6_827_0
  have e88 : jL_isMove_6_88_0 ni li mi mv nx al nc nl ki fi se th size on il ba kn ho vh vc vg p1 p2 = zAa vg vc p1 p2 := rfl
  have e114 : jL_isMove_6_114_0 ni li mi mv nx al nc nl ki fi se th size on il ba kn ho vh vc vg p1 p2 = zBb vg vc p1 p2 := rfl
  have e154 : jL_isMove_6_154_0 ni li mi mv nx al nc nl ki fi se th size on il ba kn ho vh vc vg p1 p2 = zWw vg vc p1 p2 := rfl
  have e13 : jL_isMove_6_13_0 ni li mi mv nx al nc nl ki fi se th size on il ba kn ho vh vc vg p1 p2 = zPL vg := rfl
  have e31 : jL_isMove_6_31_0 ni li mi mv nx al nc nl ki fi se th size on il ba kn ho vh vc vg p1 p2 = zST vg vc := rfl
  have e181 : jL_isMove_6_181_0 ni li mi mv nx al nc nl ki fi se th size on il ba kn ho vh vc vg p1 p2 = zSA vg vc p1 p2 := rfl
  have e50 : jL_isMove_6_50_0 ni li mi mv nx al nc nl ki fi se th size on il ba kn ho vh vc vg p1 p2 = zNE vg p2 := rfl
  simp only [e88, e114, e154, e13, e31, e181, e50]
  clear e88 e114 e154 e13 e31 e181 e50
  generalize zAa vg vc p1 p2 = a at aA aI ⊢
  generalize zBb vg vc p1 p2 = b at aB ⊢
  generalize zWw vg vc p1 p2 = w at aW ⊢
  generalize zSA vg vc p1 p2 = sa at aI ⊢
  generalize zST vg vc = st at aS ⊢
  have keep : ∀ x : Nat, xX7_give ni li mi mv nx al nc nl ki fi se th size on il ba kn ho a b w = x → ¬ x = 0 → (oL_does_13_ho ni li mi mv nx al nc nl ki fi se th size on il ba kn ho a b w 0 = ho ∧ oL_does_13_ni ni li mi mv nx al nc nl ki fi se th size on il ba kn ho a b w 0 = ni ∧ oL_does_13_mi ni li mi mv nx al nc nl ki fi se th size on il ba kn ho a b w 0 = mi ∧ oL_does_13_mv ni li mi mv nx al nc nl ki fi se th size on il ba kn ho a b w 0 = mv ∧ oL_does_13_nx ni li mi mv nx al nc nl ki fi se th size on il ba kn ho a b w 0 = nx ∧ oL_does_13_nc ni li mi mv nx al nc nl ki fi se th size on il ba kn ho a b w 0 = nc ∧ oL_does_13_nl ni li mi mv nx al nc nl ki fi se th size on il ba kn ho a b w 0 = nl) := by
    intro x q1 q2
    unfold oL_does_13_ho oL_does_13_ni oL_does_13_mi oL_does_13_mv oL_does_13_nx oL_does_13_nc oL_does_13_nl
    rw [q1]
    simp only [if_neg q2]
    exact ⟨trivial, trivial, trivial, trivial, trivial, trivial, trivial⟩
  rw [zN9, g9, zLI]
  have tr : zRc (N + 1) ni li mi mv nx al nc nl on il ba size ki fi se th kT hT kn ho kb0 hb0 gs le wi pr tp pt fr fb vk (upd vh 8 (b + (1 : Int32))) vc ve vq vg := ⟨⟨iC, iG, iN, iS, iK0, iK, iH0, iH⟩, ⟨kA, kB⟩, ⟨zJh_t hA (by decide) _, zJh_t2 hB (Or.inr (by decide)) _⟩, hc, ⟨hE, hT⟩, hp, hg⟩
  by_cases v1 : vp_in a 6 ∧ vp_in w 4
  · obtain ⟨ra, rw_⟩ := v1
    have e1 : (if (6 : Int32) ≤ a then (0 : Int32) else (if (4 : Int32) ≤ w then 0 else 1)) = 1 := by rw [if_neg (znle ra rfl), if_neg (znle rw_ rfl)]
    simp only [e1, if_neg z10]
    have hlw := zin_lt rw_
    by_cases v2 : a = b
    · have xs : xX7_give ni li mi mv nx al nc nl ki fi se th size on il ba kn ho a b w = 2 := by
        unfold xX7_give
        rw [if_pos (zMk ra), if_pos (zMk aB), if_pos (zPk rw_), zUn2 v2, if_neg z2n]
      obtain ⟨k0, k1, k2, k3, k4, k5, k6⟩ := keep 2 xs z2n
      rw [k0, k1, k2, k3, k4, k5, k6]
      simp only [if_pos v2, if_true, zN8]
      refine ⟨h26, fun _ _ _ _ _ r => absurd rfl r, fun _ _ _ _ => by unfold vp_in; decide, ?_, tr⟩
      unfold rL_does_13
      rw [xs, if_neg z2n, if_neg z21n, if_pos rfl, if_pos rfl]
    · simp only [if_neg v2, if_neg z10]
      by_cases v : ni = 1 ∧ ¬ rX7_isIn on a = 0 ∧ ¬ rX7_isIn on b = 0 ∧ ho w.toNatClampNeg = a
      · obtain ⟨q, v3, v4, v5⟩ := v
        have hpl : ¬ zPL vg = 0 := fun r => (aP.mp r) q
        have hsa : ¬ sa = 0 := fun r => (aI.mp r).elim (zvne ra rfl) v3
        have q0 : ¬ ni = 0 := by
          rw [q]
          exact z10
        rw [if_neg q0] at kB hB
        have hB' : vh (4 + w.toNatClampNeg) = ho w.toNatClampNeg + 1 := hB _ hlw
        have xs : xX7_give ni li mi mv nx al nc nl ki fi se th size on il ba kn ho a b w = 0 := by
          unfold xX7_give
          rw [if_pos (zMk ra), if_pos (zMk aB), if_pos (zPk rw_), if_pos (zUn0 v2), if_pos (zPL0 q), if_pos (zOn0 v3), if_pos (zOn0 v4), if_pos v5]
        have e5 : vh ((4 : Int32) + w).toNatClampNeg = a + 1 := by rw [zc4p rw_, hB', v5]
        simp only [if_neg hpl, if_neg hsa, if_neg v4, if_pos e5, if_neg z10]
        obtain ⟨n0, n1⟩ := iN q
        have hn : nx.toNatClampNeg < 12 := by
          have e := zcn n0
          omega
        obtain ⟨_, _, r2, r3, r4, r5, _⟩ := iC
        have ed : rX0_isJust ki fi se th size nx 1 a b w = (if st = ((((1 : Int32) + ((8 : Int32) * a)) + ((64 : Int32) * b)) + ((512 : Int32) * w)) then (1 : Int32) else (0 : Int32)) := by
          have z := zcd_inj (r2 _ hn) (r3 _ hn) (r4 _ hn) (r5 _ hn) (k' := 1) (by unfold vp_in; decide) ra aB rw_
          rw [aS q, zIJ n0 n1, if_neg (show ¬ (1 : Int32) = 2 by decide), if_neg (show ¬ (1 : Int32) = 3 by decide), if_neg (show ¬ (1 : Int32) = 4 by decide)]
          unfold jX0_isJust_50_0
          change _ = if zcd (ki nx.toNatClampNeg) (fi nx.toNatClampNeg) (se nx.toNatClampNeg) (th nx.toNatClampNeg) = zcd 1 a b w then (1 : Int32) else 0
          by_cases y1 : ki nx.toNatClampNeg = 1
          · by_cases y2 : fi nx.toNatClampNeg = a
            · by_cases y3 : se nx.toNatClampNeg = b
              · by_cases y4 : th nx.toNatClampNeg = w
                · rw [if_pos (z.mpr ⟨y1, y2, y3, y4⟩), if_pos y1, if_pos y2, if_pos y3, if_neg z10, if_pos y4]
                · rw [if_neg (fun r => y4 (z.mp r).2.2.2), if_pos y1, if_pos y2, if_pos y3, if_neg z10, if_neg y4]
              · rw [if_neg (fun r => y3 (z.mp r).2.2.1), if_pos y1, if_pos y2, if_neg y3, if_pos rfl]
            · rw [if_neg (fun r => y2 (z.mp r).2.1), if_pos y1, if_neg y2, if_pos rfl]
          · rw [if_neg (fun r => y1 (z.mp r).1), if_neg y1]
        generalize (if st = ((((1 : Int32) + ((8 : Int32) * a)) + ((64 : Int32) * b)) + ((512 : Int32) * w)) then (1 : Int32) else (0 : Int32)) = d at ed ⊢
        have hd : d = 0 ∨ d = 1 := by
          rw [← ed, zIJ n0 n1]
          repeat' split
          all_goals first | exact Or.inl rfl | exact Or.inr rfl
        obtain ⟨M1, M2⟩ := zMV ki fi se th hg q n0 n1 c1 hd
        have k : oL_does_13_ho ni li mi mv nx al nc nl ki fi se th size on il ba kn ho a b w 0 = upd ho w.toNatClampNeg b ∧ oL_does_13_ni ni li mi mv nx al nc nl ki fi se th size on il ba kn ho a b w 0 = oX7_endMove_ni ni li mi mv nx al nc nl ki fi se th size d ∧ oL_does_13_mi ni li mi mv nx al nc nl ki fi se th size on il ba kn ho a b w 0 = oX7_endMove_mi ni li mi mv nx al nc nl ki fi se th size d ∧ oL_does_13_mv ni li mi mv nx al nc nl ki fi se th size on il ba kn ho a b w 0 = oX7_endMove_mv ni li mi mv nx al nc nl ki fi se th size d ∧ oL_does_13_nx ni li mi mv nx al nc nl ki fi se th size on il ba kn ho a b w 0 = oX7_endMove_nx ni li mi mv nx al nc nl ki fi se th size d ∧ oL_does_13_nc ni li mi mv nx al nc nl ki fi se th size on il ba kn ho a b w 0 = oX7_endMove_nc ni li mi mv nx al nc nl ki fi se th size d ∧ oL_does_13_nl ni li mi mv nx al nc nl ki fi se th size on il ba kn ho a b w 0 = oX7_endMove_nl ni li mi mv nx al nc nl ki fi se th size d := by
          unfold oL_does_13_ho oL_does_13_ni oL_does_13_mi oL_does_13_mv oL_does_13_nx oL_does_13_nc oL_does_13_nl oX7_give_ho oX7_give_ni oX7_give_mi oX7_give_mv oX7_give_nx oX7_give_nc oX7_give_nl
          rw [xs, ed]
          exact ⟨rfl, rfl, rfl, rfl, rfl, rfl, rfl⟩
        obtain ⟨k0, k1, k2, k3, k4, k5, k6⟩ := k
        have i2 := yk_13_2 (li := li) (mi := mi) (mv := mv) (al := al) (nc := nc) (nl := nl) (on := on) (il := il) (ba := ba) (kn := kn) (ho := ho) a b w 0 ⟨c0, c1, r2, r3, r4, r5, by assumption⟩ iN
        have i7 := yk_13_7 (ni := ni) (li := li) (mi := mi) (mv := mv) (nx := nx) (al := al) (nc := nc) (nl := nl) (on := on) (il := il) (ba := ba) (size := size) (ki := ki) (fi := fi) (se := se) (th := th) (kn := kn) a b w 0 iH
        rw [k1, k4] at i2
        rw [k0] at i7
        rw [k0, k1, k2, k3, k4, k5, k6]
        refine ⟨h26, fun _ _ _ _ _ _ _ _ _ => zi4 rw_, fun _ _ _ _ => zi4 rw_, ?_, ⟨⟨c0, c1, r2, r3, r4, r5, by assumption⟩, iG, i2, iS, iK0, iK, iH0, i7⟩, ⟨kA, ?_⟩, ⟨?_, ?_⟩, hc, ⟨hE, hT⟩, hp, M1⟩
        · unfold rL_does_13 rX7_give
          rw [xs, if_pos rfl, ed, M2]
          exact if_pos rfl
        · rw [if_neg (zEMn q)]
          exact kB
        · rw [zc4p rw_]
          exact zJh_t hA (by omega) _
        · rw [if_neg (zEMn q), zc4p rw_, zsh]
          exact zJh_upd hB
      · have xs : xX7_give ni li mi mv nx al nc nl ki fi se th size on il ba kn ho a b w = 3 := by
          unfold xX7_give
          rw [if_pos (zMk ra), if_pos (zMk aB), if_pos (zPk rw_), if_pos (zUn0 v2)]
          by_cases q : ni = 1
          · rw [if_pos (zPL0 q)]
            by_cases v3 : rX7_isIn on a = 0
            · rw [zOn3 v3, if_neg z3n]
            · rw [if_pos (zOn0 v3)]
              by_cases v4 : rX7_isIn on b = 0
              · rw [zOn3 v4, if_neg z3n]
              · rw [if_pos (zOn0 v4), if_neg (fun v5 => v ⟨q, v3, v4, v5⟩)]
          · rw [zPL3 q, if_neg z3n]
        have f0 : (if zPL vg = 0 then (0 : Int32) else (if sa = 0 then (0 : Int32) else (if rX7_isIn on b = 0 then (0 : Int32) else (if vh ((4 : Int32) + w).toNatClampNeg = (a + (1 : Int32)) then (1 : Int32) else (0 : Int32))))) = 0 := by
          by_cases q : ni = 1
          · rw [if_neg (fun r => (aP.mp r) q)]
            by_cases v3 : rX7_isIn on a = 0
            · rw [if_pos (aI.mpr (Or.inr v3))]
            · rw [if_neg (fun r => (aI.mp r).elim (zvne ra rfl) v3)]
              by_cases v4 : rX7_isIn on b = 0
              · rw [if_pos v4]
              · rw [if_neg v4]
                have q0 : ¬ ni = 0 := by
                  rw [q]
                  exact z10
                rw [if_neg q0] at hB
                have hB' : vh (4 + w.toNatClampNeg) = ho w.toNatClampNeg + 1 := hB _ hlw
                rw [zc4p rw_, hB', if_neg (fun r => v ⟨q, v3, v4, zp1i.mp r⟩)]
          · rw [if_pos (aP.mpr q)]
        obtain ⟨k0, k1, k2, k3, k4, k5, k6⟩ := keep 3 xs z3n
        rw [k0, k1, k2, k3, k4, k5, k6]
        simp only [f0, if_true, zN8]
        refine ⟨h26, fun _ _ _ _ _ _ _ _ _ => zi4 rw_, fun _ _ _ _ => by unfold vp_in; decide, ?_, tr⟩
        unfold rL_does_13
        rw [xs, if_neg z3n, if_neg z31n, if_neg z32n, if_pos rfl]
  · have e1 : (if (6 : Int32) ≤ a then (0 : Int32) else (if (4 : Int32) ≤ w then 0 else 1)) = 0 := by
      rcases aA with rfl | ra
      · rw [if_pos (by decide)]
      · rcases aW with rfl | rw_
        · rw [if_pos (show (4 : Int32) ≤ 4 by decide)]
          split <;> rfl
        · exact absurd ⟨ra, rw_⟩ v1
    have xs : xX7_give ni li mi mv nx al nc nl ki fi se th size on il ba kn ho a b w = 1 := by
      unfold xX7_give
      rcases aA with rfl | ra
      · rw [zM6, if_neg z1n]
      · rcases aW with rfl | rw_
        · rw [if_pos (zMk ra), if_pos (zMk aB), zP4, if_neg z1n]
        · exact absurd ⟨ra, rw_⟩ v1
    obtain ⟨k0, k1, k2, k3, k4, k5, k6⟩ := keep 1 xs z1n
    rw [k0, k1, k2, k3, k4, k5, k6]
    simp only [e1, if_true, zN8]
    refine ⟨h26, fun _ _ _ _ r => absurd rfl r, fun _ _ _ _ => by unfold vp_in; decide, ?_, tr⟩
    unfold rL_does_13
    rw [xs, if_neg z1n, if_pos rfl, if_pos rfl]
set_option maxHeartbeats 2000000 in
theorem zT_m8 {N : Nat} {ni li mi mv nx al nc nl on il ba size : Int32} {ki fi se th kT hT kn ho kb0 hb0 : Nat → Int32} {gs : Int32} {le wi pr tp pt : Nat → Int32} {fr fb : Nat → Int64} {vk vh vc ve vq vg : Nat → Int32} (h : zRc N ni li mi mv nx al nc nl on il ba size ki fi se th kT hT kn ho kb0 hb0 gs le wi pr tp pt fr fb vk vh vc ve vq vg) (p1 : Int32) (p2 : Int32) (h1 : 0 ≤ p1.toInt) (h2 : 0 ≤ p2.toInt) : (¬ (jL_isMove_8_13_0 ni li mi mv nx al nc nl ki fi se th size on il ba kn ho vh vc vg p1 p2) = 0 → vp_in (vg ((7 : Int32)).toNatClampNeg) 13) ∧ ((3 : Int32) ≤ (8 : Int32) → ¬ (8 : Int32) = (3 : Int32) → (6 : Int32) ≤ (8 : Int32) → (8 : Int32) ≤ (8 : Int32) → (8 : Int32) = (8 : Int32) → ¬ (jL_isMove_8_1020_0 ni li mi mv nx al nc nl ki fi se th size on il ba kn ho vh vc vg p1 p2) = 0 → ¬ (jL_isMove_8_13_0 ni li mi mv nx al nc nl ki fi se th size on il ba kn ho vh vc vg p1 p2) = 0 → ¬ (jL_isMove_8_181_0 ni li mi mv nx al nc nl ki fi se th size on il ba kn ho vh vc vg p1 p2) = 0 → vp_in ((4 : Int32) + (jL_isMove_8_154_0 ni li mi mv nx al nc nl ki fi se th size on il ba kn ho vh vc vg p1 p2)) 9) ∧ ((3 : Int32) ≤ (8 : Int32) → ¬ (8 : Int32) = (3 : Int32) → (6 : Int32) ≤ (8 : Int32) → (8 : Int32) ≤ (8 : Int32) → (8 : Int32) = (8 : Int32) → vp_in (jL_isMove_8_1068_0 ni li mi mv nx al nc nl ki fi se th size on il ba kn ho vh vc vg p1 p2) 9) ∧ rL_isMove_8 ni li mi mv nx al nc nl ki fi se th size on il ba kn ho vh vc vg p1 p2 = 1 ∧ zRc (N + 1) (oL_isMove_8_ni ni li mi mv nx al nc nl ki fi se th size on il ba kn ho vh vc vg p1 p2) li (oL_isMove_8_mi ni li mi mv nx al nc nl ki fi se th size on il ba kn ho vh vc vg p1 p2) (oL_isMove_8_mv ni li mi mv nx al nc nl ki fi se th size on il ba kn ho vh vc vg p1 p2) (oL_isMove_8_nx ni li mi mv nx al nc nl ki fi se th size on il ba kn ho vh vc vg p1 p2) al (oL_isMove_8_nc ni li mi mv nx al nc nl ki fi se th size on il ba kn ho vh vc vg p1 p2) (oL_isMove_8_nl ni li mi mv nx al nc nl ki fi se th size on il ba kn ho vh vc vg p1 p2) on il ba size ki fi se th kT hT kn (oL_isMove_8_ho ni li mi mv nx al nc nl ki fi se th size on il ba kn ho vh vc vg p1 p2) kb0 hb0 gs le wi pr tp pt fr fb vk (oL_isMove_8_vh ni li mi mv nx al nc nl ki fi se th size on il ba kn ho vh vc vg p1 p2) vc ve vq (oL_isMove_8_vg ni li mi mv nx al nc nl ki fi se th size on il ba kn ho vh vc vg p1 p2) := by
  obtain ⟨⟨iC, iG, iN, iS, iK0, iK, iH0, iH⟩, ⟨kA, kB⟩, ⟨hA, hB⟩, hc, ⟨hE, hT⟩, hp, hg⟩ := h
  have hT := zJt_le hT (Nat.le_succ N)
  have hg' := hg
  obtain ⟨g0, g1, g2, g3, g4, g5, g6, g7, g8, g9, g10, g11, g12⟩ := hg'
  obtain ⟨aA, aB, aW, aP, aS, aI⟩ := zArgs hg hc iC iN (p1 := p1) (p2 := p2) h1
  have c0 := iC.1
  have c1 := iC.2.1
  have h26 : ¬ zPL vg = 0 → vp_in (vg ((7 : Int32)).toNatClampNeg) 13 := by
    intro q
    have r : ni = 1 := Classical.byContradiction (fun r => q (aP.mpr r))
    obtain ⟨n0, n1⟩ := iN r
    rw [zN7, g7]
    exact zin_b n0 (by omega)
  have R0 : zRc (N + 1) ni li mi mv nx al nc nl on il ba size ki fi se th kT hT kn ho kb0 hb0 gs le wi pr tp pt fr fb vk vh vc ve vq vg := ⟨⟨iC, iG, iN, iS, iK0, iK, iH0, iH⟩, ⟨kA, kB⟩, ⟨hA, hB⟩, hc, ⟨hE, hT⟩, hp, hg⟩
  unfold rL_isMove_8 oL_isMove_8_ho oL_isMove_8_ni oL_isMove_8_mi oL_isMove_8_mv oL_isMove_8_nx oL_isMove_8_nc oL_isMove_8_nl oL_isMove_8_vh oL_isMove_8_vg jL_isMove_8_1111_0 jL_isMove_8_1111_1 jL_isMove_8_1068_0 jL_isMove_8_1051_0 jL_isMove_8_1020_0
  have e88 : jL_isMove_8_88_0 ni li mi mv nx al nc nl ki fi se th size on il ba kn ho vh vc vg p1 p2 = zAa vg vc p1 p2 := rfl
  have e114 : jL_isMove_8_114_0 ni li mi mv nx al nc nl ki fi se th size on il ba kn ho vh vc vg p1 p2 = zBb vg vc p1 p2 := rfl
  have e154 : jL_isMove_8_154_0 ni li mi mv nx al nc nl ki fi se th size on il ba kn ho vh vc vg p1 p2 = zWw vg vc p1 p2 := rfl
  have e13 : jL_isMove_8_13_0 ni li mi mv nx al nc nl ki fi se th size on il ba kn ho vh vc vg p1 p2 = zPL vg := rfl
  have e31 : jL_isMove_8_31_0 ni li mi mv nx al nc nl ki fi se th size on il ba kn ho vh vc vg p1 p2 = zST vg vc := rfl
  have e181 : jL_isMove_8_181_0 ni li mi mv nx al nc nl ki fi se th size on il ba kn ho vh vc vg p1 p2 = zSA vg vc p1 p2 := rfl
  have e50 : jL_isMove_8_50_0 ni li mi mv nx al nc nl ki fi se th size on il ba kn ho vh vc vg p1 p2 = zNE vg p2 := rfl
  simp only [e88, e114, e154, e13, e31, e181, e50]
  clear e88 e114 e154 e13 e31 e181 e50
  generalize zAa vg vc p1 p2 = a at aA aI ⊢
  generalize zBb vg vc p1 p2 = b at aB ⊢
  generalize zWw vg vc p1 p2 = w at aW ⊢
  generalize zSA vg vc p1 p2 = sa at aI ⊢
  generalize zST vg vc = st at aS ⊢
  have keep : ∀ x : Nat, xX7_take ni li mi mv nx al nc nl ki fi se th size on il ba kn ho a w = x → ¬ x = 0 → (oL_does_14_ho ni li mi mv nx al nc nl ki fi se th size on il ba kn ho a w 0 0 = ho ∧ oL_does_14_ni ni li mi mv nx al nc nl ki fi se th size on il ba kn ho a w 0 0 = ni ∧ oL_does_14_mi ni li mi mv nx al nc nl ki fi se th size on il ba kn ho a w 0 0 = mi ∧ oL_does_14_mv ni li mi mv nx al nc nl ki fi se th size on il ba kn ho a w 0 0 = mv ∧ oL_does_14_nx ni li mi mv nx al nc nl ki fi se th size on il ba kn ho a w 0 0 = nx ∧ oL_does_14_nc ni li mi mv nx al nc nl ki fi se th size on il ba kn ho a w 0 0 = nc ∧ oL_does_14_nl ni li mi mv nx al nc nl ki fi se th size on il ba kn ho a w 0 0 = nl) := by
    intro x q1 q2
    unfold oL_does_14_ho oL_does_14_ni oL_does_14_mi oL_does_14_mv oL_does_14_nx oL_does_14_nc oL_does_14_nl
    rw [q1]
    simp only [if_neg q2]
    exact ⟨trivial, trivial, trivial, trivial, trivial, trivial, trivial⟩
  have tr : zRc (N + 1) ni li mi mv nx al nc nl on il ba size ki fi se th kT hT kn ho kb0 hb0 gs le wi pr tp pt fr fb vk (upd vh 8 (a + (1 : Int32))) vc ve vq vg := ⟨⟨iC, iG, iN, iS, iK0, iK, iH0, iH⟩, ⟨kA, kB⟩, ⟨zJh_t hA (by decide) _, zJh_t2 hB (Or.inr (by decide)) _⟩, hc, ⟨hE, hT⟩, hp, hg⟩
  by_cases v1 : vp_in a 6 ∧ vp_in w 4
  · obtain ⟨ra, rw_⟩ := v1
    have e1 : (if (6 : Int32) ≤ a then (0 : Int32) else (if (4 : Int32) ≤ w then 0 else 1)) = 1 := by rw [if_neg (znle ra rfl), if_neg (znle rw_ rfl)]
    simp only [e1, if_neg z10]
    have hlw := zin_lt rw_
    by_cases v : ni = 1 ∧ ¬ rX7_isIn on a = 0 ∧ ho w.toNatClampNeg = -1
    · obtain ⟨q, v3, v5⟩ := v
      have hpl : ¬ zPL vg = 0 := fun r => (aP.mp r) q
      have hsa : ¬ sa = 0 := fun r => (aI.mp r).elim (zvne ra rfl) v3
      have q0 : ¬ ni = 0 := by
        rw [q]
        exact z10
      rw [if_neg q0] at kB hB
      have hB' : vh (4 + w.toNatClampNeg) = ho w.toNatClampNeg + 1 := hB _ hlw
      have xs : xX7_take ni li mi mv nx al nc nl ki fi se th size on il ba kn ho a w = 0 := by
        unfold xX7_take
        rw [if_pos (zMk ra), if_pos (zPk rw_), if_pos (zPL0 q), if_pos (zOn0 v3), if_pos v5]
      have e5 : vh ((4 : Int32) + w).toNatClampNeg = 0 := by
        rw [zc4p rw_, hB', v5]
        decide
      simp only [if_neg hpl, if_neg hsa, if_pos e5, if_neg z10]
      obtain ⟨n0, n1⟩ := iN q
      obtain ⟨M1, M2⟩ := zMV ki fi se th hg q n0 n1 c1 (d := 0) (Or.inl rfl)
      have k : oL_does_14_ho ni li mi mv nx al nc nl ki fi se th size on il ba kn ho a w 0 0 = upd ho w.toNatClampNeg a ∧ oL_does_14_ni ni li mi mv nx al nc nl ki fi se th size on il ba kn ho a w 0 0 = oX7_endMove_ni ni li mi mv nx al nc nl ki fi se th size 0 ∧ oL_does_14_mi ni li mi mv nx al nc nl ki fi se th size on il ba kn ho a w 0 0 = oX7_endMove_mi ni li mi mv nx al nc nl ki fi se th size 0 ∧ oL_does_14_mv ni li mi mv nx al nc nl ki fi se th size on il ba kn ho a w 0 0 = oX7_endMove_mv ni li mi mv nx al nc nl ki fi se th size 0 ∧ oL_does_14_nx ni li mi mv nx al nc nl ki fi se th size on il ba kn ho a w 0 0 = oX7_endMove_nx ni li mi mv nx al nc nl ki fi se th size 0 ∧ oL_does_14_nc ni li mi mv nx al nc nl ki fi se th size on il ba kn ho a w 0 0 = oX7_endMove_nc ni li mi mv nx al nc nl ki fi se th size 0 ∧ oL_does_14_nl ni li mi mv nx al nc nl ki fi se th size on il ba kn ho a w 0 0 = oX7_endMove_nl ni li mi mv nx al nc nl ki fi se th size 0 := by
        unfold oL_does_14_ho oL_does_14_ni oL_does_14_mi oL_does_14_mv oL_does_14_nx oL_does_14_nc oL_does_14_nl
        rw [xs]
        exact ⟨rfl, rfl, rfl, rfl, rfl, rfl, rfl⟩
      obtain ⟨k0, k1, k2, k3, k4, k5, k6⟩ := k
      have i2 := yk_14_2 (li := li) (mi := mi) (mv := mv) (al := al) (nc := nc) (nl := nl) (on := on) (il := il) (ba := ba) (kn := kn) (ho := ho) a w 0 0 iC iN
      have i7 := yk_14_7 (ni := ni) (li := li) (mi := mi) (mv := mv) (nx := nx) (al := al) (nc := nc) (nl := nl) (on := on) (il := il) (ba := ba) (size := size) (ki := ki) (fi := fi) (se := se) (th := th) (kn := kn) a w 0 0 iH
      rw [k1, k4] at i2
      rw [k0] at i7
      rw [k0, k1, k2, k3, k4, k5, k6]
      refine ⟨h26, fun _ _ _ _ _ _ _ _ => zi4 rw_, fun _ _ _ _ _ => zi4 rw_, ?_, ⟨iC, iG, i2, iS, iK0, iK, iH0, i7⟩, ⟨kA, ?_⟩, ⟨?_, ?_⟩, hc, ⟨hE, hT⟩, hp, M1⟩
      · unfold rL_does_14 rX7_take
        rw [xs, if_pos rfl, M2]
        exact if_pos rfl
      · rw [if_neg (zEMn q)]
        exact kB
      · rw [zc4p rw_]
        exact zJh_t hA (by omega) _
      · rw [if_neg (zEMn q), zc4p rw_, zsh]
        exact zJh_upd hB
    · have xs : xX7_take ni li mi mv nx al nc nl ki fi se th size on il ba kn ho a w = 3 := by
        unfold xX7_take
        rw [if_pos (zMk ra), if_pos (zPk rw_)]
        by_cases q : ni = 1
        · rw [if_pos (zPL0 q)]
          by_cases v3 : rX7_isIn on a = 0
          · rw [zOn3 v3, if_neg z3n]
          · rw [if_pos (zOn0 v3), if_neg (fun v5 => v ⟨q, v3, v5⟩)]
        · rw [zPL3 q, if_neg z3n]
      have f0 : (if zPL vg = 0 then (0 : Int32) else (if sa = 0 then (0 : Int32) else (if vh ((4 : Int32) + w).toNatClampNeg = 0 then (1 : Int32) else (0 : Int32)))) = 0 := by
        by_cases q : ni = 1
        · rw [if_neg (fun r => (aP.mp r) q)]
          by_cases v3 : rX7_isIn on a = 0
          · rw [if_pos (aI.mpr (Or.inr v3))]
          · rw [if_neg (fun r => (aI.mp r).elim (zvne ra rfl) v3)]
            have q0 : ¬ ni = 0 := by
              rw [q]
              exact z10
            rw [if_neg q0] at hB
            have hB' : vh (4 + w.toNatClampNeg) = ho w.toNatClampNeg + 1 := hB _ hlw
            rw [zc4p rw_, hB', if_neg (fun r => v ⟨q, v3, (zmp1 (iH.1 _ hlw)).2.1.mp r⟩)]
        · rw [if_pos (aP.mpr q)]
      obtain ⟨k0, k1, k2, k3, k4, k5, k6⟩ := keep 3 xs z3n
      rw [k0, k1, k2, k3, k4, k5, k6]
      simp only [f0, if_true, zN8]
      refine ⟨h26, fun _ _ _ _ _ _ _ _ => zi4 rw_, fun _ _ _ _ _ => by unfold vp_in; decide, ?_, tr⟩
      unfold rL_does_14
      rw [xs, if_neg z3n, if_neg z31n, if_pos rfl]
  · have e1 : (if (6 : Int32) ≤ a then (0 : Int32) else (if (4 : Int32) ≤ w then 0 else 1)) = 0 := by
      rcases aA with rfl | ra
      · rw [if_pos (by decide)]
      · rcases aW with rfl | rw_
        · rw [if_pos (show (4 : Int32) ≤ 4 by decide)]
          split <;> rfl
        · exact absurd ⟨ra, rw_⟩ v1
    have xs : xX7_take ni li mi mv nx al nc nl ki fi se th size on il ba kn ho a w = 1 := by
      unfold xX7_take
      rcases aA with rfl | ra
      · rw [zM6, if_neg z1n]
      · rcases aW with rfl | rw_
        · rw [if_pos (zMk ra), zP4, if_neg z1n]
        · exact absurd ⟨ra, rw_⟩ v1
    obtain ⟨k0, k1, k2, k3, k4, k5, k6⟩ := keep 1 xs z1n
    rw [k0, k1, k2, k3, k4, k5, k6]
    simp only [e1, if_true, zN8]
    refine ⟨h26, fun _ _ _ _ _ r => absurd rfl r, fun _ _ _ _ _ => by unfold vp_in; decide, ?_, tr⟩
    unfold rL_does_14
    rw [xs, if_neg z1n, if_pos rfl, if_pos rfl]
/-! moves: greet -/
set_option maxHeartbeats 2000000 in
theorem zT_m9 {N : Nat} {ni li mi mv nx al nc nl on il ba size : Int32} {ki fi se th kT hT kn ho kb0 hb0 : Nat → Int32} {gs : Int32} {le wi pr tp pt : Nat → Int32} {fr fb : Nat → Int64} {vk vh vc ve vq vg : Nat → Int32} (h : zRc N ni li mi mv nx al nc nl on il ba size ki fi se th kT hT kn ho kb0 hb0 gs le wi pr tp pt fr fb vk vh vc ve vq vg) (p1 : Int32) (p2 : Int32) (h1 : 0 ≤ p1.toInt) (h2 : 0 ≤ p2.toInt) : (¬ (jL_isMove_9_13_0 ni li mi mv nx al nc nl ki fi se th size on il ba vc vg p1 p2) = 0 → vp_in (vg ((7 : Int32)).toNatClampNeg) 13) ∧ rL_isMove_9 ni li mi mv nx al nc nl ki fi se th size on il ba vc vg p1 p2 = 1 ∧ zRc (N + 1) (oL_isMove_9_ni ni li mi mv nx al nc nl ki fi se th size on il ba vc vg p1 p2) li (oL_isMove_9_mi ni li mi mv nx al nc nl ki fi se th size on il ba vc vg p1 p2) (oL_isMove_9_mv ni li mi mv nx al nc nl ki fi se th size on il ba vc vg p1 p2) (oL_isMove_9_nx ni li mi mv nx al nc nl ki fi se th size on il ba vc vg p1 p2) al (oL_isMove_9_nc ni li mi mv nx al nc nl ki fi se th size on il ba vc vg p1 p2) (oL_isMove_9_nl ni li mi mv nx al nc nl ki fi se th size on il ba vc vg p1 p2) on il ba size ki fi se th kT hT kn ho kb0 hb0 gs le wi pr tp pt fr fb vk vh vc ve vq (oL_isMove_9_vg ni li mi mv nx al nc nl ki fi se th size on il ba vc vg p1 p2) := by
  obtain ⟨⟨iC, iG, iN, iS, iK0, iK, iH0, iH⟩, ⟨kA, kB⟩, ⟨hA, hB⟩, hc, ⟨hE, hT⟩, hp, hg⟩ := h
  have hT := zJt_le hT (Nat.le_succ N)
  have hg' := hg
  obtain ⟨g0, g1, g2, g3, g4, g5, g6, g7, g8, g9, g10, g11, g12⟩ := hg'
  obtain ⟨aA, aB, aW, aP, aS, aI⟩ := zArgs hg hc iC iN (p1 := p1) (p2 := p2) h1
  have c0 := iC.1
  have c1 := iC.2.1
  have h26 : ¬ zPL vg = 0 → vp_in (vg ((7 : Int32)).toNatClampNeg) 13 := by
    intro q
    have r : ni = 1 := Classical.byContradiction (fun r => q (aP.mpr r))
    obtain ⟨n0, n1⟩ := iN r
    rw [zN7, g7]
    exact zin_b n0 (by omega)
  have R0 : zRc (N + 1) ni li mi mv nx al nc nl on il ba size ki fi se th kT hT kn ho kb0 hb0 gs le wi pr tp pt fr fb vk vh vc ve vq vg := ⟨⟨iC, iG, iN, iS, iK0, iK, iH0, iH⟩, ⟨kA, kB⟩, ⟨hA, hB⟩, hc, ⟨hE, hT⟩, hp, hg⟩
  unfold rL_isMove_9 oL_isMove_9_ni oL_isMove_9_mi oL_isMove_9_mv oL_isMove_9_nx oL_isMove_9_nc oL_isMove_9_nl oL_isMove_9_vg jL_isMove_9_1314_0 jL_isMove_9_1314_1 jL_isMove_9_1261_0 jL_isMove_9_1173_0 jL_isMove_9_1207_0 jL_isMove_9_1191_0 jL_isMove_9_1139_0
  have e88 : jL_isMove_9_88_0 ni li mi mv nx al nc nl ki fi se th size on il ba vc vg p1 p2 = zAa vg vc p1 p2 := rfl
  have e114 : jL_isMove_9_114_0 ni li mi mv nx al nc nl ki fi se th size on il ba vc vg p1 p2 = zBb vg vc p1 p2 := rfl
  have e154 : jL_isMove_9_154_0 ni li mi mv nx al nc nl ki fi se th size on il ba vc vg p1 p2 = zWw vg vc p1 p2 := rfl
  have e13 : jL_isMove_9_13_0 ni li mi mv nx al nc nl ki fi se th size on il ba vc vg p1 p2 = zPL vg := rfl
  have e31 : jL_isMove_9_31_0 ni li mi mv nx al nc nl ki fi se th size on il ba vc vg p1 p2 = zST vg vc := rfl
  have e181 : jL_isMove_9_181_0 ni li mi mv nx al nc nl ki fi se th size on il ba vc vg p1 p2 = zSA vg vc p1 p2 := rfl
  have e50 : jL_isMove_9_50_0 ni li mi mv nx al nc nl ki fi se th size on il ba vc vg p1 p2 = zNE vg p2 := rfl
  simp only [e88, e114, e154, e13, e31, e181, e50]
  clear e88 e114 e154 e13 e31 e181 e50
  generalize zAa vg vc p1 p2 = a at aA aI ⊢
  generalize zBb vg vc p1 p2 = b at aB ⊢
  generalize zWw vg vc p1 p2 = w at aW ⊢
  generalize zSA vg vc p1 p2 = sa at aI ⊢
  generalize zST vg vc = st at aS ⊢
  refine ⟨h26, ?_⟩
  rw [zN9, g9, zLI]
  generalize hx : (if zRem (p2 / (4 : Int32)) (2 : Int32) = 0 then a else b) = x
  generalize hy : (if x = a then b else a) = y
  have hxy : (x = a ∧ y = b) ∨ (x = b ∧ y = a) := by
    rw [← hy]
    by_cases z : x = a
    · rw [if_pos z]
      exact Or.inl ⟨z, rfl⟩
    · rw [if_neg z]
      refine Or.inr ⟨?_, rfl⟩
      by_cases t : zRem (p2 / (4 : Int32)) (2 : Int32) = 0
      · rw [if_pos t] at hx
        exact absurd hx.symm z
      · rw [if_neg t] at hx
        exact hx.symm
  clear hx hy
  have keep : ∀ x : Nat, xX7_greet ni li mi mv nx al nc nl ki fi se th size on il ba x y = x → ¬ x = 0 → (oL_does_15_ni ni li mi mv nx al nc nl ki fi se th size on il ba x y 0 0 = ni ∧ oL_does_15_mi ni li mi mv nx al nc nl ki fi se th size on il ba x y 0 0 = mi ∧ oL_does_15_mv ni li mi mv nx al nc nl ki fi se th size on il ba x y 0 0 = mv ∧ oL_does_15_nx ni li mi mv nx al nc nl ki fi se th size on il ba x y 0 0 = nx ∧ oL_does_15_nc ni li mi mv nx al nc nl ki fi se th size on il ba x y 0 0 = nc ∧ oL_does_15_nl ni li mi mv nx al nc nl ki fi se th size on il ba x y 0 0 = nl) := by
    intro x q1 q2
    unfold oL_does_15_ni oL_does_15_mi oL_does_15_mv oL_does_15_nx oL_does_15_nc oL_does_15_nl
    rw [q1]
    simp only [if_neg q2]
    exact ⟨trivial, trivial, trivial, trivial, trivial, trivial⟩
  have xg : xX7_greet ni li mi mv nx al nc nl ki fi se th size on il ba x y = (if a = 6 then 1 else (if a = b then 2 else (if ni = 1 then (if rX7_isIn on a = 0 then 3 else (if rX7_isIn on b = 0 then 3 else 0)) else 3))) := by
    unfold xX7_greet
    rcases aA with rfl | ra
    · rcases hxy with ⟨rfl, rfl⟩ | ⟨rfl, rfl⟩
      · rw [zM6, if_neg z1n, if_pos rfl]
      · rw [if_pos (zMk aB), zM6, if_neg z1n, if_pos rfl]
    · rw [if_neg (zvne ra rfl)]
      have rx : vp_in x 6 := by
        rcases hxy with ⟨rfl, _⟩ | ⟨rfl, _⟩
        · exact ra
        · exact aB
      have ry : vp_in y 6 := by
        rcases hxy with ⟨_, rfl⟩ | ⟨_, rfl⟩
        · exact aB
        · exact ra
      rw [if_pos (zMk rx), if_pos (zMk ry)]
      by_cases v2 : a = b
      · rw [if_pos v2, zUn2 (by
          rcases hxy with ⟨e1, e2⟩ | ⟨e1, e2⟩
          · rw [e1, e2, v2]
          · rw [e1, e2, v2]), if_neg z2n]
      · rw [if_neg v2, if_pos (zUn0 (fun r => by
          rcases hxy with ⟨e1, e2⟩ | ⟨e1, e2⟩
          · exact v2 (by rw [← e1, ← e2, r])
          · exact v2 (by rw [← e1, ← e2, r])))]
        by_cases q : ni = 1
        · rw [if_pos q, if_pos (zPL0 q)]
          rcases hxy with ⟨rfl, rfl⟩ | ⟨rfl, rfl⟩
          · by_cases v3 : rX7_isIn on x = 0
            · rw [zOn3 v3, if_neg z3n, if_pos v3]
            · rw [if_pos (zOn0 v3), if_neg v3]
              by_cases v4 : rX7_isIn on y = 0
              · rw [zOn3 v4, if_neg z3n, if_pos v4]
              · rw [if_pos (zOn0 v4), if_neg v4]
          · by_cases v3 : rX7_isIn on x = 0
            · rw [zOn3 v3, if_neg z3n, if_pos v3]
              split <;> rfl
            · rw [if_pos (zOn0 v3), if_neg v3]
              by_cases v4 : rX7_isIn on y = 0
              · rw [zOn3 v4, if_neg z3n, if_pos v4]
              · rw [if_pos (zOn0 v4), if_neg v4]
        · rw [if_neg q, zPL3 q, if_neg z3n]
  by_cases v0 : a = 6
  · rw [if_pos v0] at xg
    obtain ⟨k0, k1, k2, k3, k4, k5⟩ := keep 1 xg z1n
    rw [k0, k1, k2, k3, k4, k5]
    simp only [if_pos v0]
    refine ⟨?_, R0⟩
    unfold rL_does_15
    rw [xg, if_neg z1n, if_pos rfl, if_pos rfl]
  · have ra := aA.resolve_left v0
    rw [if_neg v0] at xg
    by_cases v2 : a = b
    · rw [if_pos v2] at xg
      obtain ⟨k0, k1, k2, k3, k4, k5⟩ := keep 2 xg z2n
      rw [k0, k1, k2, k3, k4, k5]
      simp only [if_neg v0, if_pos v2, if_true]
      refine ⟨?_, R0⟩
      unfold rL_does_15
      rw [xg, if_neg z2n, if_neg z21n, if_pos rfl, if_pos rfl]
    · rw [if_neg v2] at xg
      by_cases v : ni = 1 ∧ ¬ rX7_isIn on a = 0 ∧ ¬ rX7_isIn on b = 0
      · obtain ⟨q, v3, v4⟩ := v
        rw [if_pos q, if_neg v3, if_neg v4] at xg
        have hpl : ¬ zPL vg = 0 := fun r => (aP.mp r) q
        have hsa : ¬ sa = 0 := fun r => (aI.mp r).elim (zvne ra rfl) v3
        have q0 : ¬ ni = 0 := by
          rw [q]
          exact z10
        rw [if_neg q0] at kB hB
        simp only [if_neg v0, if_neg v2, if_neg z10, if_neg (znle ra (c := 6) rfl), if_neg hpl, if_neg hsa, if_neg v4]
        obtain ⟨n0, n1⟩ := iN q
        have hn : nx.toNatClampNeg < 12 := by
          have e := zcn n0
          omega
        obtain ⟨_, _, r2, r3, r4, r5, _⟩ := iC
        have ed : rX0_isJust ki fi se th size nx 4 x y (-1) = (if zRem st (8 : Int32) = (4 : Int32) then (if zRem (st / (8 : Int32)) (64 : Int32) = (a + ((8 : Int32) * b)) then (1 : Int32) else (if zRem (st / (8 : Int32)) (64 : Int32) = (b + ((8 : Int32) * a)) then (1 : Int32) else (0 : Int32))) else (0 : Int32)) := by
          have z := zcd_ab (r2 _ hn) (r3 _ hn) (r4 _ hn) (r5 _ hn)
          rw [← aS q] at z
          have f1 := vp_in_iff.mp (r3 _ hn)
          have f2 := vp_in_iff.mp (r4 _ hn)
          have f3 := vp_in_iff.mp ra
          have f4 := vp_in_iff.mp aB
          have key : ∀ u v : Int32, vp_in u 6 → vp_in v 6 → (zRem (st / (8 : Int32)) (64 : Int32) = (u + ((8 : Int32) * v)) ↔ (fi nx.toNatClampNeg = u ∧ se nx.toNatClampNeg = v)) := by
            intro u v hu hv
            have f5 := vp_in_iff.mp hu
            have f6 := vp_in_iff.mp hv
            have e2 := zmK (k := 8) (n := 8) (b := v) rfl (by omega) (by omega)
            have e3 := zaT (a := u) (b := (8 : Int32) * v) (by omega) (by omega)
            constructor
            · intro h
              rw [h] at z
              exact ⟨Int32.toInt_inj.mp (by omega), Int32.toInt_inj.mp (by omega)⟩
            · rintro ⟨h1, h2⟩
              apply Int32.toInt_inj.mp
              rw [z, e3, e2, h1, h2]
          have k1 := key a b ra aB
          have k2 := key b a aB ra
          have e8 : zRem st (8 : Int32) = ki nx.toNatClampNeg := by rw [aS q, zcd_k (r2 _ hn) (r3 _ hn) (r4 _ hn) (r5 _ hn)]
          rw [e8, zIJ n0 n1, if_neg (show ¬ (4 : Int32) = 2 by decide), if_neg (show ¬ (4 : Int32) = 3 by decide), if_pos (show (4 : Int32) = 4 from rfl)]
          unfold jX0_isJust_50_0
          by_cases y1 : ki nx.toNatClampNeg = 4
          · rw [if_pos y1, if_pos y1]
            by_cases w1 : fi nx.toNatClampNeg = a ∧ se nx.toNatClampNeg = b
            · rw [if_pos (k1.mpr w1)]
              obtain ⟨w2, w3⟩ := w1
              rcases hxy with ⟨rfl, rfl⟩ | ⟨rfl, rfl⟩
              · rw [if_pos w2, if_pos w3, if_neg z10]
              · rw [if_neg (fun r => v2 (w2.symm.trans r)), if_pos rfl, if_pos w2, if_pos w3]
            · rw [if_neg (fun r => w1 (k1.mp r))]
              by_cases w4 : fi nx.toNatClampNeg = b ∧ se nx.toNatClampNeg = a
              · rw [if_pos (k2.mpr w4)]
                obtain ⟨w2, w3⟩ := w4
                rcases hxy with ⟨rfl, rfl⟩ | ⟨rfl, rfl⟩
                · rw [if_neg (fun r => v2 (r.symm.trans w2)), if_pos rfl, if_pos w2, if_pos w3]
                · rw [if_pos w2, if_pos w3, if_neg z10]
              · rw [if_neg (fun r => w4 (k2.mp r))]
                have n1 : ∀ u v : Int32, ¬ (fi nx.toNatClampNeg = u ∧ se nx.toNatClampNeg = v) → (if fi nx.toNatClampNeg = u then (if se nx.toNatClampNeg = v then (1 : Int32) else 0) else 0) = 0 := by
                  intro u v h
                  by_cases h1 : fi nx.toNatClampNeg = u
                  · rw [if_pos h1, if_neg (fun h2 => h ⟨h1, h2⟩)]
                  · rw [if_neg h1]
                rcases hxy with ⟨rfl, rfl⟩ | ⟨rfl, rfl⟩
                · rw [n1 _ _ w1, if_pos rfl, n1 _ _ w4]
                · rw [n1 _ _ w4, if_pos rfl, n1 _ _ w1]
          · rw [if_neg y1, if_neg y1]
        generalize (if zRem st (8 : Int32) = (4 : Int32) then (if zRem (st / (8 : Int32)) (64 : Int32) = (a + ((8 : Int32) * b)) then (1 : Int32) else (if zRem (st / (8 : Int32)) (64 : Int32) = (b + ((8 : Int32) * a)) then (1 : Int32) else (0 : Int32))) else (0 : Int32)) = d at ed ⊢
        have hd : d = 0 ∨ d = 1 := by
          rw [← ed, zIJ n0 n1]
          repeat' split
          all_goals first | exact Or.inl rfl | exact Or.inr rfl
        obtain ⟨M1, M2⟩ := zMV ki fi se th hg q n0 n1 c1 hd
        have k : oL_does_15_ni ni li mi mv nx al nc nl ki fi se th size on il ba x y 0 0 = oX7_endMove_ni ni li mi mv nx al nc nl ki fi se th size d ∧ oL_does_15_mi ni li mi mv nx al nc nl ki fi se th size on il ba x y 0 0 = oX7_endMove_mi ni li mi mv nx al nc nl ki fi se th size d ∧ oL_does_15_mv ni li mi mv nx al nc nl ki fi se th size on il ba x y 0 0 = oX7_endMove_mv ni li mi mv nx al nc nl ki fi se th size d ∧ oL_does_15_nx ni li mi mv nx al nc nl ki fi se th size on il ba x y 0 0 = oX7_endMove_nx ni li mi mv nx al nc nl ki fi se th size d ∧ oL_does_15_nc ni li mi mv nx al nc nl ki fi se th size on il ba x y 0 0 = oX7_endMove_nc ni li mi mv nx al nc nl ki fi se th size d ∧ oL_does_15_nl ni li mi mv nx al nc nl ki fi se th size on il ba x y 0 0 = oX7_endMove_nl ni li mi mv nx al nc nl ki fi se th size d := by
          unfold oL_does_15_ni oL_does_15_mi oL_does_15_mv oL_does_15_nx oL_does_15_nc oL_does_15_nl oX7_greet_ni oX7_greet_mi oX7_greet_mv oX7_greet_nx oX7_greet_nc oX7_greet_nl
          rw [xg, ed]
          exact ⟨rfl, rfl, rfl, rfl, rfl, rfl⟩
        obtain ⟨k0, k1, k2, k3, k4, k5⟩ := k
        have i2 := yk_15_2 (li := li) (mi := mi) (mv := mv) (al := al) (nc := nc) (nl := nl) (on := on) (il := il) (ba := ba) x y 0 0 ⟨c0, c1, r2, r3, r4, r5, by assumption⟩ iN
        rw [k0, k3] at i2
        rw [k0, k1, k2, k3, k4, k5]
        refine ⟨?_, ⟨⟨c0, c1, r2, r3, r4, r5, by assumption⟩, iG, i2, iS, iK0, iK, iH0, iH⟩, ⟨kA, ?_⟩, ⟨hA, ?_⟩, hc, ⟨hE, hT⟩, hp, M1⟩
        · unfold rL_does_15 rX7_greet
          rw [xg, if_pos rfl, ed, M2]
          exact if_pos rfl
        · rw [if_neg (zEMn q)]
          exact kB
        · rw [if_neg (zEMn q)]
          exact hB
      · have xs : xX7_greet ni li mi mv nx al nc nl ki fi se th size on il ba x y = 3 := by
          rw [xg]
          by_cases q : ni = 1
          · rw [if_pos q]
            by_cases v3 : rX7_isIn on a = 0
            · rw [if_pos v3]
            · rw [if_neg v3]
              by_cases v4 : rX7_isIn on b = 0
              · rw [if_pos v4]
              · exact absurd ⟨q, v3, v4⟩ v
          · rw [if_neg q]
        have f0 : (if zPL vg = 0 then (0 : Int32) else (if sa = 0 then (0 : Int32) else (if rX7_isIn on b = 0 then (0 : Int32) else (1 : Int32)))) = 0 := by
          by_cases q : ni = 1
          · rw [if_neg (fun r => (aP.mp r) q)]
            by_cases v3 : rX7_isIn on a = 0
            · rw [if_pos (aI.mpr (Or.inr v3))]
            · rw [if_neg (fun r => (aI.mp r).elim (zvne ra rfl) v3)]
              by_cases v4 : rX7_isIn on b = 0
              · rw [if_pos v4]
              · exact absurd ⟨q, v3, v4⟩ v
          · rw [if_pos (aP.mpr q)]
        obtain ⟨k0, k1, k2, k3, k4, k5⟩ := keep 3 xs z3n
        rw [k0, k1, k2, k3, k4, k5]
        simp only [if_neg v0, if_neg v2, if_neg z10, if_neg (znle ra (c := 6) rfl), f0, if_true]
        refine ⟨?_, R0⟩
        unfold rL_does_15
        rw [xs, if_neg z3n, if_neg z31n, if_neg z32n, if_pos rfl]
/-! moves: a gag is played -/
theorem ysr0 {w : Int32} (hw : vp_in w 1001) {n : Nat} (h16 : 16 ≤ n) (hn : n < 32) : w >>> (Int32.ofNat n &&& 31) = 0 := by
  have h := vp_in_iff.mp hw
  have e0 : (0 : Int32).toInt = 0 := rfl
  have hp : 65536 ≤ 2 ^ n := Nat.pow_le_pow_right (n := 2) (by decide) h16
  apply Int32.toInt_inj.mp
  rw [pk_shr w _ n (yi_k n hn), Int.shiftRight_eq_div_pow, e0]
  generalize 2 ^ n = q at hp
  exact Int.ediv_eq_zero_of_lt h.1 (by omega)
theorem zLaugh {w t : Int32} (hw : vp_in w 1001) (ht : 0 ≤ t.toInt) : (w >>> ((if (31 : Int32) < t then (31 : Int32) else t) &&& 31)).toInt = w.toInt / ((2 ^ t.toInt.toNat : Nat) : Int) := by
  have e31 : (31 : Int32).toInt = 31 := rfl
  have h := vp_in_iff.mp hw
  by_cases q : (31 : Int32) < t
  · rw [if_pos q]
    rw [Int32.lt_iff_toInt_lt] at q
    have z : w >>> ((31 : Int32) &&& 31) = 0 := ysr0 hw (n := 31) (by decide) (by decide)
    have hp : 1024 ≤ 2 ^ t.toInt.toNat := Nat.pow_le_pow_right (n := 2) (by decide) (show 10 ≤ t.toInt.toNat by omega)
    rw [z]
    exact (Int.ediv_eq_zero_of_lt h.1 (by omega)).symm
  · rw [if_neg q]
    rw [Int32.lt_iff_toInt_lt] at q
    have r : vp_in t 32 := zin_b ht (by omega)
    have p := pk_shr w (Int32.ofNat t.toNatClampNeg &&& 31) t.toNatClampNeg (yi_k _ (zin_lt r))
    rw [← yof r] at p
    rw [p, Int.shiftRight_eq_div_pow]
    rfl
theorem zL1445 (ni : Int32)(li : Int32)(mi : Int32)(mv : Int32)(nx : Int32)(al : Int32)(nc : Int32)(nl : Int32)(le : Nat → Int32)(wi : Nat → Int32)(pr : Nat → Int32)(tp : Nat → Int32)(gs : Int32)(on : Int32)(il : Int32)(ba : Int32)(kn : Nat → Int32)(ho : Nat → Int32)(vh : Nat → Int32)(vc : Nat → Int32)(ve : Nat → Int32)(vg : Nat → Int32)(p1 : Int32)(p2 : Int32) {t : Int32} (hL : ve (((6 : Int32) + (zRem (p2 / (4 : Int32)) ((vg ((3 : Int32)).toNatClampNeg) + (1 : Int32))))).toNatClampNeg = t) : ∀ (n : Nat) (la i : Int32), 0 ≤ la.toInt → 0 ≤ i.toInt → i.toInt ≤ t.toInt → t.toInt - i.toInt < n → (lL_isMove_11_1445_la1 ni li mi mv nx al nc nl le wi pr tp gs on il ba kn ho vh vc ve vg p1 p2 n la i).toInt = la.toInt / ((2 ^ (t.toInt - i.toInt).toNat : Nat) : Int) := by
  intro n
  induction n with
  | zero =>
    intro la i h0 h1 h2 h3
    omega
  | succ n ih =>
    intro la i h0 h1 h2 h3
    rw [lL_isMove_11_1445_la1, hL]
    by_cases hc : t ≤ i
    · rw [if_pos hc]
      rw [Int32.le_iff_toInt_le] at hc
      have e : (t.toInt - i.toInt).toNat = 0 := by omega
      rw [e]
      exact (Int.ediv_one _).symm
    · rw [if_neg hc]
      have hI := zInc hc
      rw [Int32.le_iff_toInt_le] at hc
      have e2 := zdK (a := la) (b := 2) (n := 2) rfl h0 (by decide)
      have e3 : (t.toInt - i.toInt).toNat = (t.toInt - (i + 1).toInt).toNat + 1 := by omega
      rw [ih (la / 2) (i + 1) (by rw [e2]; exact Int.ediv_nonneg h0 (by decide)) (by omega) (by omega) (by omega), e2, e3, Nat.pow_succ, Nat.mul_comm, Int.natCast_mul, Int.ediv_ediv (show (0 : Int) ≤ ((2 : Nat) : Int) by decide)]
      rfl
theorem zPS {vg : Nat → Int32} {ni li mi mv nx al nc nl on il ba size gs : Int32} (hg : zJg vg ni li mi mv nx al nc nl on il ba size gs) (h1 : ni = 1) (hn : ¬ nx = size) (p : Int32) :
    zJg (oL_passes_vg vg p) (oX7_passMinutes_ni ni li mi mv nx al nc nl p) li (oX7_passMinutes_mi ni li mi mv nx al nc nl p) mv nx al nc (oX7_passMinutes_nl ni li mi mv nx al nc nl p) on il ba size gs := by
  subst h1
  obtain ⟨g0, g1, g2, g3, g4, g5, g6, g7, g8, g9, g10, g11, g12⟩ := hg
  unfold zJg oL_passes_vg jL_passes_74_0 jL_passes_58_0 jL_passes_43_0 jL_passes_23_0 oX7_passMinutes_ni oX7_passMinutes_mi oX7_passMinutes_nl
  by_cases l : mi + p < li
  · simp [yupd32, zN0, zN4, zN5, zN6, zN7, zN8, zN11, zN12, g0, g1, g2, g3, g4, g5, g6, g7, g8, g9, g10, g11, g12, hn, l]
  · simp [yupd32, zN0, zN4, zN5, zN6, zN7, zN8, zN11, zN12, g0, g1, g2, g3, g4, g5, g6, g7, g8, g9, g10, g11, g12, hn, l]
/-- what the law keeps of a gag -/
theorem zgeT {l w p : Int32} (hl : vp_in l 21) (hw : vp_in w 1001) (hp : p = -1 ∨ vp_in p 4) : (zge l w p).toInt = l.toInt + 32 * w.toInt + 32768 * (p.toInt + 1) ∧ -1 ≤ p.toInt ∧ p.toInt ≤ 3 := by
  have h1 := vp_in_iff.mp hl
  have h2 := vp_in_iff.mp hw
  have em : (-1 : Int32).toInt = -1 := rfl
  have h3 : -1 ≤ p.toInt ∧ p.toInt ≤ 3 := by
    rcases hp with rfl | hp
    · omega
    · have h4 := vp_in_iff.mp hp
      omega
  have e1 : (1 : Int32).toInt = 1 := rfl
  have a1 := zaT (a := p) (b := 1) (by omega) (by omega)
  have a2 := zmK (k := 32) (n := 32) (b := w) rfl (by omega) (by omega)
  have a3 := zmK (k := 32768) (n := 32768) (b := p + 1) rfl (by omega) (by omega)
  have a4 := zaT (a := l) (b := (32 : Int32) * w) (by omega) (by omega)
  refine ⟨?_, h3⟩
  unfold zge
  rw [zaT (by omega) (by omega), a4, a3, a2, a1, e1]
theorem zge_p {l w p : Int32} (hl : vp_in l 21) (hw : vp_in w 1001) (hp : p = -1 ∨ vp_in p 4) : zge l w p / (32768 : Int32) - 1 = p := by
  have h1 := vp_in_iff.mp hl
  have h2 := vp_in_iff.mp hw
  obtain ⟨e, h3, h4⟩ := zgeT hl hw hp
  have e1 : (1 : Int32).toInt = 1 := rfl
  have e2 := zdK (a := zge l w p) (b := 32768) (n := 32768) rfl (by omega) (by omega)
  apply Int32.toInt_inj.mp
  rw [zsT (by omega) (by omega)]
  omega
theorem zge_w {l w p : Int32} (hl : vp_in l 21) (hw : vp_in w 1001) (hp : p = -1 ∨ vp_in p 4) : zRem (zge l w p / (32 : Int32)) (1024 : Int32) = w := by
  have h1 := vp_in_iff.mp hl
  have h2 := vp_in_iff.mp hw
  obtain ⟨e, h3, h4⟩ := zgeT hl hw hp
  have e2 := zdK (a := zge l w p) (b := 32) (n := 32) rfl (by omega) (by omega)
  apply Int32.toInt_inj.mp
  rw [zrK (n := 1024) rfl (by omega) (by omega), e2, e]
  omega
theorem zge_l {l w p : Int32} (hl : vp_in l 21) (hw : vp_in w 1001) (hp : p = -1 ∨ vp_in p 4) : zRem (zge l w p) (32 : Int32) = l := by
  have h1 := vp_in_iff.mp hl
  have h2 := vp_in_iff.mp hw
  obtain ⟨e, h3, h4⟩ := zgeT hl hw hp
  apply Int32.toInt_inj.mp
  rw [zrK (n := 32) rfl (by omega) (by omega), e]
  omega
theorem zmn (a b : Int32) : (if a ≤ b then a else b) = (if a < b then a else b) := by
  by_cases h1 : a < b
  · rw [if_pos h1, if_pos (by rw [Int32.lt_iff_toInt_lt] at h1; rw [Int32.le_iff_toInt_le]; omega)]
  · rw [if_neg h1]
    by_cases h2 : a ≤ b
    · rw [if_pos h2]
      apply Int32.toInt_inj.mp
      rw [Int32.lt_iff_toInt_lt] at h1
      rw [Int32.le_iff_toInt_le] at h2
      omega
    · rw [if_neg h2]
set_option maxHeartbeats 2000000 in
theorem zT_m11 {N : Nat} {ni li mi mv nx al nc nl on il ba size : Int32} {ki fi se th kT hT kn ho kb0 hb0 : Nat → Int32} {gs : Int32} {le wi pr tp pt : Nat → Int32} {fr fb : Nat → Int64} {vk vh vc ve vq vg : Nat → Int32} (h : zRc N ni li mi mv nx al nc nl on il ba size ki fi se th kT hT kn ho kb0 hb0 gs le wi pr tp pt fr fb vk vh vc ve vq vg) (hN9 : N < 1000) (p1 : Int32) (p2 : Int32) (h1 : 0 ≤ p1.toInt) (h2 : 0 ≤ p2.toInt) : rL_isMove_11 ni li mi mv nx al nc nl le wi pr tp gs on il ba kn ho vh vc ve vg p1 p2 = 1 ∧ zRc (N + 1) (oL_isMove_11_ni ni li mi mv nx al nc nl le wi pr tp gs on il ba kn ho vh vc ve vg p1 p2) li (oL_isMove_11_mi ni li mi mv nx al nc nl le wi pr tp gs on il ba kn ho vh vc ve vg p1 p2) mv nx (oL_isMove_11_al ni li mi mv nx al nc nl le wi pr tp gs on il ba kn ho vh vc ve vg p1 p2) nc (oL_isMove_11_nl ni li mi mv nx al nc nl le wi pr tp gs on il ba kn ho vh vc ve vg p1 p2) on il ba size ki fi se th kT hT kn ho kb0 hb0 gs le wi pr (oL_isMove_11_tp ni li mi mv nx al nc nl le wi pr tp gs on il ba kn ho vh vc ve vg p1 p2) pt fr fb vk vh vc (oL_isMove_11_ve ni li mi mv nx al nc nl le wi pr tp gs on il ba kn ho vh vc ve vg p1 p2) vq (oL_isMove_11_vg ni li mi mv nx al nc nl le wi pr tp gs on il ba kn ho vh vc ve vg p1 p2) := by
  obtain ⟨⟨iC, iG, iN, iS, iK0, iK, iH0, iH⟩, ⟨kA, kB⟩, ⟨hA, hB⟩, hc, ⟨hE, hT⟩, hp, hg⟩ := h
  have hT0 := hT
  have hT := zJt_le hT (Nat.le_succ N)
  have hg' := hg
  obtain ⟨g0, g1, g2, g3, g4, g5, g6, g7, g8, g9, g10, g11, g12⟩ := hg'
  obtain ⟨aA, aB, aW, aP, aS, aI⟩ := zArgs hg hc iC iN (p1 := p1) (p2 := p2) h1
  have c0 := iC.1
  have c1 := iC.2.1
  have h26 : ¬ zPL vg = 0 → vp_in (vg ((7 : Int32)).toNatClampNeg) 13 := by
    intro q
    have r : ni = 1 := Classical.byContradiction (fun r => q (aP.mpr r))
    obtain ⟨n0, n1⟩ := iN r
    rw [zN7, g7]
    exact zin_b n0 (by omega)
  have R0 : zRc (N + 1) ni li mi mv nx al nc nl on il ba size ki fi se th kT hT kn ho kb0 hb0 gs le wi pr tp pt fr fb vk vh vc ve vq vg := ⟨⟨iC, iG, iN, iS, iK0, iK, iH0, iH⟩, ⟨kA, kB⟩, ⟨hA, hB⟩, hc, ⟨hE, hT⟩, hp, hg⟩
  unfold rL_isMove_11 oL_isMove_11_tp oL_isMove_11_al oL_isMove_11_ni oL_isMove_11_mi oL_isMove_11_nl oL_isMove_11_ve oL_isMove_11_vg jL_isMove_11_1571_0 jL_isMove_11_1537_0 jL_isMove_11_1537_1 jL_isMove_11_1537_2 jL_isMove_11_1534_0 jL_isMove_11_1418_0 jL_isMove_11_1378_0 jL_isMove_11_1357_0
  have e88 : jL_isMove_11_88_0 ni li mi mv nx al nc nl le wi pr tp gs on il ba kn ho vh vc ve vg p1 p2 = zAa vg vc p1 p2 := rfl
  have e114 : jL_isMove_11_114_0 ni li mi mv nx al nc nl le wi pr tp gs on il ba kn ho vh vc ve vg p1 p2 = zBb vg vc p1 p2 := rfl
  have e154 : jL_isMove_11_154_0 ni li mi mv nx al nc nl le wi pr tp gs on il ba kn ho vh vc ve vg p1 p2 = zWw vg vc p1 p2 := rfl
  have e13 : jL_isMove_11_13_0 ni li mi mv nx al nc nl le wi pr tp gs on il ba kn ho vh vc ve vg p1 p2 = zPL vg := rfl
  have e31 : jL_isMove_11_31_0 ni li mi mv nx al nc nl le wi pr tp gs on il ba kn ho vh vc ve vg p1 p2 = zST vg vc := rfl
  have e181 : jL_isMove_11_181_0 ni li mi mv nx al nc nl le wi pr tp gs on il ba kn ho vh vc ve vg p1 p2 = zSA vg vc p1 p2 := rfl
  have e50 : jL_isMove_11_50_0 ni li mi mv nx al nc nl le wi pr tp gs on il ba kn ho vh vc ve vg p1 p2 = zNE vg p2 := rfl
  simp only [e88, e114, e154, e13, e31, e181, e50]
  clear e88 e114 e154 e13 e31 e181 e50
  generalize zAa vg vc p1 p2 = a at aA aI ⊢
  generalize zBb vg vc p1 p2 = b at aB ⊢
  generalize zWw vg vc p1 p2 = w at aW ⊢
  generalize zSA vg vc p1 p2 = sa at aI ⊢
  generalize zST vg vc = st at aS ⊢
  have gs0 := iG.1
  have gs6 := iG.2.1
  have e1 : (1 : Int32).toInt = 1 := rfl
  have e6 : (6 : Int32).toInt = 6 := rfl
  have hq0 : 0 ≤ (p2 / (4 : Int32)).toInt := zdv0 (n := 4) rfl (by decide) h2
  have egs := zaT (a := gs) (b := 1) (by omega) (by omega)
  have hgi : 0 ≤ (zRem (p2 / (4 : Int32)) (gs + 1)).toInt ∧ (zRem (p2 / (4 : Int32)) (gs + 1)).toInt ≤ gs.toInt := by
    rw [zrT hq0 (by omega)]
    have r1 := Int.emod_nonneg (p2 / (4 : Int32)).toInt (show (gs + 1).toInt ≠ 0 by omega)
    have r2 := Int.emod_lt_of_pos (p2 / (4 : Int32)).toInt (show 0 < (gs + 1).toInt by omega)
    omega
  rw [zN3, g3]
  generalize hgie : zRem (p2 / (4 : Int32)) (gs + 1) = gi at hgi ⊢
  have keep : ∀ x : Nat, xX7_play ni li mi mv nx al nc nl le wi pr tp gs on il ba kn ho gi a = x → ¬ x = 0 → (oL_does_16_tp ni li mi mv nx al nc nl le wi pr tp gs on il ba kn ho gi a 0 0 = tp ∧ oL_does_16_al ni li mi mv nx al nc nl le wi pr tp gs on il ba kn ho gi a 0 0 = al ∧ oL_does_16_ni ni li mi mv nx al nc nl le wi pr tp gs on il ba kn ho gi a 0 0 = ni ∧ oL_does_16_mi ni li mi mv nx al nc nl le wi pr tp gs on il ba kn ho gi a 0 0 = mi ∧ oL_does_16_nl ni li mi mv nx al nc nl le wi pr tp gs on il ba kn ho gi a 0 0 = nl) := by
    intro x q1 q2
    unfold oL_does_16_tp oL_does_16_al oL_does_16_ni oL_does_16_mi oL_does_16_nl
    rw [q1]
    simp only [if_neg q2]
    exact ⟨trivial, trivial, trivial, trivial, trivial⟩
  have hnz : ¬ gs + 1 = 0 := fun q => by
    rw [q] at egs
    have e0 : (0 : Int32).toInt = 0 := rfl
    omega
  by_cases v1 : gi.toInt < gs.toInt ∧ vp_in a 6
  · obtain ⟨vg1, ra⟩ := v1
    have n1 : ¬ gs ≤ gi := by
      rw [Int32.le_iff_toInt_le]
      omega
    have lg : gi < gs := by
      rw [Int32.lt_iff_toInt_lt]
      exact vg1
    have rg : vp_in gi 6 := zin_b hgi.1 (by omega)
    have ng := zci rg
    have lg6 := zin_lt rg
    obtain ⟨rl, ev⟩ := hE gi.toNatClampNeg (by omega)
    have rw_ := iG.2.2.1 _ lg6
    have rp := iG.2.2.2 _ lg6
    obtain ⟨et, t0, tN⟩ := hT0 _ lg6
    have x0 : xX7_play ni li mi mv nx al nc nl le wi pr tp gs on il ba kn ho gi a = (if ni = 1 then (if rX7_isIn on a = 0 then 3 else (if pr gi.toNatClampNeg = -1 then 0 else (if ho (pr gi.toNatClampNeg).toNatClampNeg = a then 0 else 3))) else 3) := by
      unfold xX7_play
      rw [if_neg (zlt0 hgi.1), if_pos lg, if_pos (zMk ra)]
      by_cases q : ni = 1
      · rw [if_pos (zPL0 q), if_pos q]
        by_cases v3 : rX7_isIn on a = 0
        · rw [zOn3 v3, if_neg z3n, if_pos v3]
        · rw [if_pos (zOn0 v3), if_neg v3]
      · rw [zPL3 q, if_neg z3n, if_neg q]
    have eF : (if gs ≤ gi then (0 : Int32) else (if (6 : Int32) ≤ a then 0 else 1)) = 1 := by rw [if_neg n1, if_neg (znle ra rfl)]
    simp only [eF, if_neg z10, ev, zge_p rl rw_ rp, zge_w rl rw_ rp]
    by_cases v : ni = 1 ∧ ¬ rX7_isIn on a = 0 ∧ (pr gi.toNatClampNeg = -1 ∨ ho (pr gi.toNatClampNeg).toNatClampNeg = a)
    · obtain ⟨q, v3, v5⟩ := v
      have hpl : ¬ zPL vg = 0 := fun r => (aP.mp r) q
      have hsa : ¬ sa = 0 := fun r => (aI.mp r).elim (zvne ra rfl) v3
      have q0 : ¬ ni = 0 := by
        rw [q]
        exact z10
      rw [if_neg q0] at kB hB
      have xs : xX7_play ni li mi mv nx al nc nl le wi pr tp gs on il ba kn ho gi a = 0 := by
        rw [x0, if_pos q, if_neg v3]
        rcases v5 with v5 | v5
        · rw [if_pos v5]
        · rw [if_pos v5, ite_self]
      have eC : (if zPL vg = 0 then (0 : Int32) else (if sa = 0 then (0 : Int32) else (if pr gi.toNatClampNeg < 0 then (1 : Int32) else (if vh ((4 : Int32) + pr gi.toNatClampNeg).toNatClampNeg = (a + (1 : Int32)) then (1 : Int32) else (0 : Int32))))) = 1 := by
        rw [if_neg hpl, if_neg hsa]
        rcases rp with rp | rp
        · rw [rp, if_pos (by decide)]
        · rw [if_neg (zlt0 (vp_in_iff.mp rp).1), zc4p rp]
          have hB' : vh (4 + (pr gi.toNatClampNeg).toNatClampNeg) = ho (pr gi.toNatClampNeg).toNatClampNeg + 1 := hB _ (zin_lt rp)
          rw [hB', if_pos (zp1i.mpr (v5.resolve_left (fun r => ym1 rp r.symm)))]
      simp only [eC, if_neg z10]
      obtain ⟨n0, n1'⟩ := iN q
      have hnx : ¬ nx = size := fun r => by
        rw [r] at n1'
        omega
      have hLI : ve (((6 : Int32) + zRem (p2 / (4 : Int32)) ((vg ((3 : Int32)).toNatClampNeg) + (1 : Int32)))).toNatClampNeg = tp gi.toNatClampNeg := by
        rw [zN3, g3, hgie, zc6p rg, et]
      have hla := zL1445 ni li mi mv nx al nc nl le wi pr tp gs on il ba kn ho vh vc ve vg p1 p2 hLI ((ve (((6 : Int32) + zRem (p2 / (4 : Int32)) ((vg ((3 : Int32)).toNatClampNeg) + (1 : Int32)))).toNatClampNeg).toNatClampNeg + 1) (wi gi.toNatClampNeg) 0 (vp_in_iff.mp rw_).1 (by decide) (by have e0 : (0 : Int32).toInt = 0 := rfl; omega) (by
        rw [hLI]
        have e0 : (0 : Int32).toInt = 0 := rfl
        have z := zcn t0
        omega)
      rw [hLI] at hla
      have e0 : (0 : Int32).toInt = 0 := rfl
      have hl2 : lL_isMove_11_1445_la1 ni li mi mv nx al nc nl le wi pr tp gs on il ba kn ho vh vc ve vg p1 p2 ((tp gi.toNatClampNeg).toNatClampNeg + 1) (wi gi.toNatClampNeg) 0 = rX1_laughsNow le wi pr tp gs gi := by
        apply Int32.toInt_inj.mp
        unfold rX1_laughsNow
        rw [hla, zLaugh rw_ t0, e0, Int.sub_zero]
      rw [zc6p rg, et, hl2, zN10, g10, zuN _ _ (show gi.toNatClampNeg ≠ 6 + gi.toNatClampNeg by omega), ev, zge_l rl rw_ rp, zN5, zN6, zuN _ _ (show 5 ≠ 10 by decide), zuN _ _ (show 6 ≠ 10 by decide), g5, g6, zmn]
      have hg2 : zJg (upd vg 10 (al + rX1_laughsNow le wi pr tp gs gi)) ni li mi mv nx (al + rX1_laughsNow le wi pr tp gs gi) nc nl on il ba size gs := by
        refine ⟨?_, ?_, ?_, ?_, ?_, ?_, ?_, ?_, ?_, ?_, zuE _ _ _, ?_, ?_⟩ <;> (rw [zuN _ _ (by decide)]; assumption)
      have M1 := zPS hg2 q hnx (if li - mi < le gi.toNatClampNeg then li - mi else le gi.toNatClampNeg)
      have i2 := yk_16_2 (ni := ni) (li := li) (mi := mi) (mv := mv) (al := al) (nc := nc) (nl := nl) (on := on) (il := il) (ba := ba) (gs := gs) (kn := kn) (ho := ho) (le := le) (wi := wi) (pr := pr) (tp := tp) gi a 0 0 iN
      have k : oL_does_16_tp ni li mi mv nx al nc nl le wi pr tp gs on il ba kn ho gi a 0 0 = upd tp gi.toNatClampNeg (tp gi.toNatClampNeg + 1) ∧ oL_does_16_al ni li mi mv nx al nc nl le wi pr tp gs on il ba kn ho gi a 0 0 = al + rX1_laughsNow le wi pr tp gs gi ∧ oL_does_16_ni ni li mi mv nx al nc nl le wi pr tp gs on il ba kn ho gi a 0 0 = oX7_passMinutes_ni ni li mi mv nx (al + rX1_laughsNow le wi pr tp gs gi) nc nl (if li - mi < le gi.toNatClampNeg then li - mi else le gi.toNatClampNeg) ∧ oL_does_16_mi ni li mi mv nx al nc nl le wi pr tp gs on il ba kn ho gi a 0 0 = oX7_passMinutes_mi ni li mi mv nx (al + rX1_laughsNow le wi pr tp gs gi) nc nl (if li - mi < le gi.toNatClampNeg then li - mi else le gi.toNatClampNeg) ∧ oL_does_16_nl ni li mi mv nx al nc nl le wi pr tp gs on il ba kn ho gi a 0 0 = oX7_passMinutes_nl ni li mi mv nx (al + rX1_laughsNow le wi pr tp gs gi) nc nl (if li - mi < le gi.toNatClampNeg then li - mi else le gi.toNatClampNeg) := by
        unfold oL_does_16_tp oL_does_16_al oL_does_16_ni oL_does_16_mi oL_does_16_nl
        rw [xs]
        exact ⟨rfl, rfl, rfl, rfl, rfl⟩
      obtain ⟨k0, k1, k2, k3, k4⟩ := k
      rw [k2] at i2
      rw [k0, k1, k2, k3, k4]
      have nz : ¬ oX7_passMinutes_ni ni li mi mv nx (al + rX1_laughsNow le wi pr tp gs gi) nc nl (if li - mi < le gi.toNatClampNeg then li - mi else le gi.toNatClampNeg) = 0 := by
        unfold oX7_passMinutes_ni
        rw [if_pos q, q]
        split <;> decide
      have tp1 := zaT (a := tp gi.toNatClampNeg) (b := 1) (by omega) (by omega)
      refine ⟨?_, ⟨iC, iG, i2, iS, iK0, iK, iH0, iH⟩, ⟨kA, ?_⟩, ⟨hA, ?_⟩, hc, ⟨?_, ?_⟩, hp, M1⟩
      · unfold rL_does_16 rX7_play
        rw [xs, if_pos rfl]
        exact if_pos rfl
      · rw [if_neg nz]
        exact kB
      · rw [if_neg nz]
        exact hB
      · intro j hj
        rw [zuN _ _ (by omega)]
        exact hE j hj
      · intro j hj
        rw [yupd32, yupd32]
        by_cases z : j = gi.toNatClampNeg
        · rw [if_pos z, if_pos (by omega)]
          exact ⟨rfl, by omega, by omega⟩
        · rw [if_neg z, if_neg (by omega)]
          exact hT j hj
    · have xs : xX7_play ni li mi mv nx al nc nl le wi pr tp gs on il ba kn ho gi a = 3 := by
        rw [x0]
        by_cases q : ni = 1
        · rw [if_pos q]
          by_cases v3 : rX7_isIn on a = 0
          · rw [if_pos v3]
          · rw [if_neg v3, if_neg (fun v5 => v ⟨q, v3, Or.inl v5⟩), if_neg (fun v5 => v ⟨q, v3, Or.inr v5⟩)]
        · rw [if_neg q]
      have eC : (if zPL vg = 0 then (0 : Int32) else (if sa = 0 then (0 : Int32) else (if pr gi.toNatClampNeg < 0 then (1 : Int32) else (if vh ((4 : Int32) + pr gi.toNatClampNeg).toNatClampNeg = (a + (1 : Int32)) then (1 : Int32) else (0 : Int32))))) = 0 := by
        by_cases q : ni = 1
        · rw [if_neg (fun r => (aP.mp r) q)]
          by_cases v3 : rX7_isIn on a = 0
          · rw [if_pos (aI.mpr (Or.inr v3))]
          · rw [if_neg (fun r => (aI.mp r).elim (zvne ra rfl) v3)]
            have rp2 := rp.resolve_left (fun v5 => v ⟨q, v3, Or.inl v5⟩)
            have q0 : ¬ ni = 0 := by
              rw [q]
              exact z10
            rw [if_neg q0] at hB
            have hB' : vh (4 + (pr gi.toNatClampNeg).toNatClampNeg) = ho (pr gi.toNatClampNeg).toNatClampNeg + 1 := hB _ (zin_lt rp2)
            rw [if_neg (zlt0 (vp_in_iff.mp rp2).1), zc4p rp2, hB', if_neg (fun r => v ⟨q, v3, Or.inr (zp1i.mp r)⟩)]
        · rw [if_pos (aP.mpr q)]
      obtain ⟨k0, k1, k2, k3, k4⟩ := keep 3 xs z3n
      rw [k0, k1, k2, k3, k4]
      simp only [eC, if_true]
      refine ⟨?_, R0⟩
      unfold rL_does_16
      rw [xs, if_neg z3n, if_neg z31n, if_pos rfl]
  · have eF : (if gs ≤ gi then (0 : Int32) else (if (6 : Int32) ≤ a then 0 else 1)) = 0 := by
      by_cases r : gs ≤ gi
      · rw [if_pos r]
      · rw [if_neg r]
        rw [Int32.le_iff_toInt_le] at r
        rcases aA with rfl | ra
        · rw [if_pos (by decide)]
        · exact absurd ⟨by omega, ra⟩ v1
    have xs : xX7_play ni li mi mv nx al nc nl le wi pr tp gs on il ba kn ho gi a = 1 := by
      unfold xX7_play
      rw [if_neg (zlt0 hgi.1)]
      by_cases r : gi < gs
      · rw [if_pos r]
        rw [Int32.lt_iff_toInt_lt] at r
        rcases aA with rfl | ra
        · rw [zM6, if_neg z1n]
        · exact absurd ⟨r, ra⟩ v1
      · rw [if_neg r]
    obtain ⟨k0, k1, k2, k3, k4⟩ := keep 1 xs z1n
    rw [k0, k1, k2, k3, k4]
    simp only [eF, if_true]
    refine ⟨?_, R0⟩
    unfold rL_does_16
    rw [xs, if_neg z1n, if_pos rfl, if_pos rfl]
set_option maxHeartbeats 2000000 in
theorem zT_m11p {N : Nat} {ni li mi mv nx al nc nl on il ba size : Int32} {ki fi se th kT hT kn ho kb0 hb0 : Nat → Int32} {gs : Int32} {le wi pr tp pt : Nat → Int32} {fr fb : Nat → Int64} {vk vh vc ve vq vg : Nat → Int32} (h : zRc N ni li mi mv nx al nc nl on il ba size ki fi se th kT hT kn ho kb0 hb0 gs le wi pr tp pt fr fb vk vh vc ve vq vg) (hN9 : N < 1000) (p1 : Int32) (p2 : Int32) (h1 : 0 ≤ p1.toInt) (h2 : 0 ≤ p2.toInt) : (¬ (jL_isMove_11_1418_0 ni li mi mv nx al nc nl le wi pr tp gs on il ba kn ho vh vc ve vg p1 p2) = 0 → vp_in ((6 : Int32) + (zRem (p2 / (4 : Int32)) ((vg ((3 : Int32)).toNatClampNeg) + (1 : Int32)))) 12) ∧ (¬ (jL_isMove_11_13_0 ni li mi mv nx al nc nl le wi pr tp gs on il ba kn ho vh vc ve vg p1 p2) = 0 → vp_in (vg ((7 : Int32)).toNatClampNeg) 13) ∧ ((3 : Int32) ≤ (11 : Int32) → ¬ (11 : Int32) = (3 : Int32) → (6 : Int32) ≤ (11 : Int32) → (8 : Int32) ≤ (11 : Int32) → ¬ (11 : Int32) = (8 : Int32) → (11 : Int32) ≤ (11 : Int32) → ¬ ((vg ((3 : Int32)).toNatClampNeg) + (1 : Int32)) = 0) ∧ ((3 : Int32) ≤ (11 : Int32) → ¬ (11 : Int32) = (3 : Int32) → (6 : Int32) ≤ (11 : Int32) → (8 : Int32) ≤ (11 : Int32) → ¬ (11 : Int32) = (8 : Int32) → (11 : Int32) ≤ (11 : Int32) → ¬ (jL_isMove_11_1357_0 ni li mi mv nx al nc nl le wi pr tp gs on il ba kn ho vh vc ve vg p1 p2) = 0 → vp_in (zRem (p2 / (4 : Int32)) ((vg ((3 : Int32)).toNatClampNeg) + (1 : Int32))) 12) ∧ ((3 : Int32) ≤ (11 : Int32) → ¬ (11 : Int32) = (3 : Int32) → (6 : Int32) ≤ (11 : Int32) → (8 : Int32) ≤ (11 : Int32) → ¬ (11 : Int32) = (8 : Int32) → (11 : Int32) ≤ (11 : Int32) → ¬ (jL_isMove_11_1357_0 ni li mi mv nx al nc nl le wi pr tp gs on il ba kn ho vh vc ve vg p1 p2) = 0 → ¬ (jL_isMove_11_13_0 ni li mi mv nx al nc nl le wi pr tp gs on il ba kn ho vh vc ve vg p1 p2) = 0 → ¬ (jL_isMove_11_181_0 ni li mi mv nx al nc nl le wi pr tp gs on il ba kn ho vh vc ve vg p1 p2) = 0 → ¬ (jL_isMove_11_1378_0 ni li mi mv nx al nc nl le wi pr tp gs on il ba kn ho vh vc ve vg p1 p2) < 0 → vp_in ((4 : Int32) + (jL_isMove_11_1378_0 ni li mi mv nx al nc nl le wi pr tp gs on il ba kn ho vh vc ve vg p1 p2)) 9) ∧ ((3 : Int32) ≤ (11 : Int32) → ¬ (11 : Int32) = (3 : Int32) → (6 : Int32) ≤ (11 : Int32) → (8 : Int32) ≤ (11 : Int32) → ¬ (11 : Int32) = (8 : Int32) → (11 : Int32) ≤ (11 : Int32) → ¬ (jL_isMove_11_1418_0 ni li mi mv nx al nc nl le wi pr tp gs on il ba kn ho vh vc ve vg p1 p2) = 0 → vp_in (zRem (p2 / (4 : Int32)) ((vg ((3 : Int32)).toNatClampNeg) + (1 : Int32))) 12) ∧ ((3 : Int32) ≤ (11 : Int32) → ¬ (11 : Int32) = (3 : Int32) → (6 : Int32) ≤ (11 : Int32) → (8 : Int32) ≤ (11 : Int32) → ¬ (11 : Int32) = (8 : Int32) → (11 : Int32) ≤ (11 : Int32) → ¬ (jL_isMove_11_1418_0 ni li mi mv nx al nc nl le wi pr tp gs on il ba kn ho vh vc ve vg p1 p2) = 0 → vp_in ((6 : Int32) + (zRem (p2 / (4 : Int32)) ((vg ((3 : Int32)).toNatClampNeg) + (1 : Int32)))) 12) ∧ ((3 : Int32) ≤ (11 : Int32) → ¬ (11 : Int32) = (3 : Int32) → (6 : Int32) ≤ (11 : Int32) → (8 : Int32) ≤ (11 : Int32) → ¬ (11 : Int32) = (8 : Int32) → (11 : Int32) ≤ (11 : Int32) → ¬ (jL_isMove_11_1418_0 ni li mi mv nx al nc nl le wi pr tp gs on il ba kn ho vh vc ve vg p1 p2) = 0 → vp_in ((6 : Int32) + (zRem (p2 / (4 : Int32)) ((vg ((3 : Int32)).toNatClampNeg) + (1 : Int32)))) 12) ∧ ((3 : Int32) ≤ (11 : Int32) → ¬ (11 : Int32) = (3 : Int32) → (6 : Int32) ≤ (11 : Int32) → (8 : Int32) ≤ (11 : Int32) → ¬ (11 : Int32) = (8 : Int32) → (11 : Int32) ≤ (11 : Int32) → ¬ (jL_isMove_11_1418_0 ni li mi mv nx al nc nl le wi pr tp gs on il ba kn ho vh vc ve vg p1 p2) = 0 → vp_in (zRem (p2 / (4 : Int32)) ((vg ((3 : Int32)).toNatClampNeg) + (1 : Int32))) 12) := by
  obtain ⟨⟨iC, iG, iN, iS, iK0, iK, iH0, iH⟩, ⟨kA, kB⟩, ⟨hA, hB⟩, hc, ⟨hE, hT⟩, hp, hg⟩ := h
  have hg' := hg
  obtain ⟨g0, g1, g2, g3, g4, g5, g6, g7, g8, g9, g10, g11, g12⟩ := hg'
  have c1 := iC.2.1
  have gs0 := iG.1
  have gs6 := iG.2.1
  have e1 : (1 : Int32).toInt = 1 := rfl
  have e6 : (6 : Int32).toInt = 6 := rfl
  have hq0 : 0 ≤ (p2 / (4 : Int32)).toInt := zdv0 (n := 4) rfl (by decide) h2
  have egs := zaT (a := gs) (b := 1) (by omega) (by omega)
  have hgi : 0 ≤ (zRem (p2 / (4 : Int32)) (gs + 1)).toInt ∧ (zRem (p2 / (4 : Int32)) (gs + 1)).toInt ≤ gs.toInt := by
    rw [zrT hq0 (by omega)]
    have r1 := Int.emod_nonneg (p2 / (4 : Int32)).toInt (show (gs + 1).toInt ≠ 0 by omega)
    have r2 := Int.emod_lt_of_pos (p2 / (4 : Int32)).toInt (show 0 < (gs + 1).toInt by omega)
    omega
  have hF : ¬ jL_isMove_11_1357_0 ni li mi mv nx al nc nl le wi pr tp gs on il ba kn ho vh vc ve vg p1 p2 = 0 → (zRem (p2 / (4 : Int32)) (gs + 1)).toInt < gs.toInt := by
    intro q
    unfold jL_isMove_11_1357_0 at q
    rw [zN3, g3] at q
    apply Classical.byContradiction
    intro r
    rw [if_pos (by rw [Int32.le_iff_toInt_le]; omega)] at q
    exact q rfl
  have hC : ¬ jL_isMove_11_1418_0 ni li mi mv nx al nc nl le wi pr tp gs on il ba kn ho vh vc ve vg p1 p2 = 0 → (zRem (p2 / (4 : Int32)) (gs + 1)).toInt < gs.toInt := by
    intro q
    refine hF (fun r => ?_)
    unfold jL_isMove_11_1418_0 at q
    rw [if_pos r] at q
    exact q rfl
  have hV : ∀ z : Int32, 0 ≤ z.toInt → z.toInt < gs.toInt → vp_in ((6 : Int32) + z) 12 := fun z z0 z1 => zi6 (zin_b z0 (by omega))
  have hP : ¬ jL_isMove_11_1357_0 ni li mi mv nx al nc nl le wi pr tp gs on il ba kn ho vh vc ve vg p1 p2 = 0 → jL_isMove_11_1378_0 ni li mi mv nx al nc nl le wi pr tp gs on il ba kn ho vh vc ve vg p1 p2 = pr (zRem (p2 / (4 : Int32)) (gs + 1)).toNatClampNeg := by
    intro q
    have r := hF q
    unfold jL_isMove_11_1378_0
    rw [if_neg q, zN3, g3]
    have ng := zcn hgi.1
    obtain ⟨rl, ev⟩ := hE (zRem (p2 / (4 : Int32)) (gs + 1)).toNatClampNeg (by omega)
    rw [ev, zge_p rl (iG.2.2.1 _ (by omega)) (iG.2.2.2 _ (by omega))]
  rw [zN3, g3]
  refine ⟨fun q => hV _ hgi.1 (hC q), fun q => ?_, fun _ _ _ _ _ _ q => ?_, fun _ _ _ _ _ _ _ => zin_b hgi.1 (by omega), fun _ _ _ _ _ _ q _ _ r => ?_, fun _ _ _ _ _ _ _ => zin_b hgi.1 (by omega), fun _ _ _ _ _ _ q => hV _ hgi.1 (hC q), fun _ _ _ _ _ _ q => hV _ hgi.1 (hC q), fun _ _ _ _ _ _ _ => zin_b hgi.1 (by omega)⟩
  · have r : ni = 1 := by
      apply Classical.byContradiction
      intro r
      unfold jL_isMove_11_13_0 at q
      rw [zN4, g4, if_neg r] at q
      exact q rfl
    obtain ⟨n0, n1⟩ := iN r
    rw [zN7, g7]
    exact zin_b n0 (by omega)
  · rw [q] at egs
    have e0 : (0 : Int32).toInt = 0 := rfl
    omega
  · rw [hP q] at r ⊢
    have ng := zcn hgi.1
    rcases iG.2.2.2 (zRem (p2 / (4 : Int32)) (gs + 1)).toNatClampNeg (by omega) with z | z
    · rw [z] at r
      exact absurd (by decide) r
    · exact zi4 z
/-! moves: a secret is told -/
set_option maxHeartbeats 4000000 in
theorem zT_m4 {N : Nat} {ni li mi mv nx al nc nl on il ba size : Int32} {ki fi se th kT hT kn ho kb0 hb0 : Nat → Int32} {gs : Int32} {le wi pr tp pt : Nat → Int32} {fr fb : Nat → Int64} {vk vh vc ve vq vg : Nat → Int32} (h : zRc N ni li mi mv nx al nc nl on il ba size ki fi se th kT hT kn ho kb0 hb0 gs le wi pr tp pt fr fb vk vh vc ve vq vg) (p1 : Int32) (p2 : Int32) (h1 : 0 ≤ p1.toInt) (h2 : 0 ≤ p2.toInt) : (¬ (jL_isMove_4_13_0 ni li mi mv nx al nc nl ki fi se th size on il ba kT hT kn ho vk vh vc vg p1 p2) = 0 → vp_in (vg ((7 : Int32)).toNatClampNeg) 13) ∧ ((3 : Int32) ≤ (4 : Int32) → ¬ (4 : Int32) = (3 : Int32) → ¬ (6 : Int32) ≤ (4 : Int32) → ¬ (jL_isMove_4_510_0 ni li mi mv nx al nc nl ki fi se th size on il ba kT hT kn ho vk vh vc vg p1 p2) = 0 → ¬ (jL_isMove_4_524_0 ni li mi mv nx al nc nl ki fi se th size on il ba kT hT kn ho vk vh vc vg p1 p2) = 0 → ¬ (jL_isMove_4_13_0 ni li mi mv nx al nc nl ki fi se th size on il ba kT hT kn ho vk vh vc vg p1 p2) = 0 → ¬ (jL_isMove_4_181_0 ni li mi mv nx al nc nl ki fi se th size on il ba kT hT kn ho vk vh vc vg p1 p2) = 0 → ¬ (rL_isIn (vg ((9 : Int32)).toNatClampNeg) (jL_isMove_4_114_0 ni li mi mv nx al nc nl ki fi se th size on il ba kT hT kn ho vk vh vc vg p1 p2)) = 0 → vp_in (((24 : Int32) + ((4 : Int32) * (jL_isMove_4_88_0 ni li mi mv nx al nc nl ki fi se th size on il ba kT hT kn ho vk vh vc vg p1 p2))) + (jL_isMove_4_154_0 ni li mi mv nx al nc nl ki fi se th size on il ba kT hT kn ho vk vh vc vg p1 p2)) 49) ∧ ((3 : Int32) ≤ (4 : Int32) → ¬ (4 : Int32) = (3 : Int32) → ¬ (6 : Int32) ≤ (4 : Int32) → ¬ (jL_isMove_4_584_0 ni li mi mv nx al nc nl ki fi se th size on il ba kT hT kn ho vk vh vc vg p1 p2) = 0 → (jL_isMove_4_31_0 ni li mi mv nx al nc nl ki fi se th size on il ba kT hT kn ho vk vh vc vg p1 p2) = ((((8 : Int32) * (jL_isMove_4_88_0 ni li mi mv nx al nc nl ki fi se th size on il ba kT hT kn ho vk vh vc vg p1 p2)) + ((64 : Int32) * (jL_isMove_4_114_0 ni li mi mv nx al nc nl ki fi se th size on il ba kT hT kn ho vk vh vc vg p1 p2))) + ((512 : Int32) * (jL_isMove_4_154_0 ni li mi mv nx al nc nl ki fi se th size on il ba kT hT kn ho vk vh vc vg p1 p2))) → vp_in (((24 : Int32) + ((4 : Int32) * (jL_isMove_4_114_0 ni li mi mv nx al nc nl ki fi se th size on il ba kT hT kn ho vk vh vc vg p1 p2))) + (jL_isMove_4_154_0 ni li mi mv nx al nc nl ki fi se th size on il ba kT hT kn ho vk vh vc vg p1 p2)) 49) ∧ ((3 : Int32) ≤ (4 : Int32) → ¬ (4 : Int32) = (3 : Int32) → ¬ (6 : Int32) ≤ (4 : Int32) → ¬ (jL_isMove_4_584_0 ni li mi mv nx al nc nl ki fi se th size on il ba kT hT kn ho vk vh vc vg p1 p2) = 0 → 0 ≤ (vg ((7 : Int32)).toNatClampNeg).toInt) ∧ ((3 : Int32) ≤ (4 : Int32) → ¬ (4 : Int32) = (3 : Int32) → ¬ (6 : Int32) ≤ (4 : Int32) → ¬ (jL_isMove_4_584_0 ni li mi mv nx al nc nl ki fi se th size on il ba kT hT kn ho vk vh vc vg p1 p2) = 0 → vp_in (((24 : Int32) + ((4 : Int32) * (jL_isMove_4_114_0 ni li mi mv nx al nc nl ki fi se th size on il ba kT hT kn ho vk vh vc vg p1 p2))) + (jL_isMove_4_154_0 ni li mi mv nx al nc nl ki fi se th size on il ba kT hT kn ho vk vh vc vg p1 p2)) 49) ∧ ((3 : Int32) ≤ (4 : Int32) → ¬ (4 : Int32) = (3 : Int32) → ¬ (6 : Int32) ≤ (4 : Int32) → ¬ (jL_isMove_4_584_0 ni li mi mv nx al nc nl ki fi se th size on il ba kT hT kn ho vk vh vc vg p1 p2) = 0 → vp_in (((24 : Int32) + ((4 : Int32) * (jL_isMove_4_114_0 ni li mi mv nx al nc nl ki fi se th size on il ba kT hT kn ho vk vh vc vg p1 p2))) + (jL_isMove_4_154_0 ni li mi mv nx al nc nl ki fi se th size on il ba kT hT kn ho vk vh vc vg p1 p2)) 49) ∧ ((3 : Int32) ≤ (4 : Int32) → ¬ (4 : Int32) = (3 : Int32) → ¬ (6 : Int32) ≤ (4 : Int32) → ¬ (jL_isMove_4_584_0 ni li mi mv nx al nc nl ki fi se th size on il ba kT hT kn ho vk vh vc vg p1 p2) = 0 → ¬ (rL_closes vk vh vc vg (vg ((7 : Int32)).toNatClampNeg)) = 0 → 0 ≤ ((vg ((7 : Int32)).toNatClampNeg) + (jL_isMove_4_735_0 ni li mi mv nx al nc nl ki fi se th size on il ba kT hT kn ho vk vh vc vg p1 p2)).toInt) ∧ ((3 : Int32) ≤ (4 : Int32) → ¬ (4 : Int32) = (3 : Int32) → ¬ (6 : Int32) ≤ (4 : Int32) → ¬ (jL_isMove_4_584_0 ni li mi mv nx al nc nl ki fi se th size on il ba kT hT kn ho vk vh vc vg p1 p2) = 0 → vp_in (((24 : Int32) + ((4 : Int32) * (jL_isMove_4_114_0 ni li mi mv nx al nc nl ki fi se th size on il ba kT hT kn ho vk vh vc vg p1 p2))) + (jL_isMove_4_154_0 ni li mi mv nx al nc nl ki fi se th size on il ba kT hT kn ho vk vh vc vg p1 p2)) 49) ∧ rL_isMove_4 ni li mi mv nx al nc nl ki fi se th size on il ba kT hT kn ho vk vh vc vg p1 p2 = 1 ∧ zRc (N + 1) (oL_isMove_4_ni ni li mi mv nx al nc nl ki fi se th size on il ba kT hT kn ho vk vh vc vg p1 p2) li (oL_isMove_4_mi ni li mi mv nx al nc nl ki fi se th size on il ba kT hT kn ho vk vh vc vg p1 p2) (oL_isMove_4_mv ni li mi mv nx al nc nl ki fi se th size on il ba kT hT kn ho vk vh vc vg p1 p2) (oL_isMove_4_nx ni li mi mv nx al nc nl ki fi se th size on il ba kT hT kn ho vk vh vc vg p1 p2) al (oL_isMove_4_nc ni li mi mv nx al nc nl ki fi se th size on il ba kT hT kn ho vk vh vc vg p1 p2) (oL_isMove_4_nl ni li mi mv nx al nc nl ki fi se th size on il ba kT hT kn ho vk vh vc vg p1 p2) on il ba size ki fi se th (oL_isMove_4_kT ni li mi mv nx al nc nl ki fi se th size on il ba kT hT kn ho vk vh vc vg p1 p2) (oL_isMove_4_hT ni li mi mv nx al nc nl ki fi se th size on il ba kT hT kn ho vk vh vc vg p1 p2) (oL_isMove_4_kn ni li mi mv nx al nc nl ki fi se th size on il ba kT hT kn ho vk vh vc vg p1 p2) ho kb0 hb0 gs le wi pr tp pt fr fb (oL_isMove_4_vk ni li mi mv nx al nc nl ki fi se th size on il ba kT hT kn ho vk vh vc vg p1 p2) vh vc ve vq (oL_isMove_4_vg ni li mi mv nx al nc nl ki fi se th size on il ba kT hT kn ho vk vh vc vg p1 p2) := by
  obtain ⟨⟨iC, iG, iN, iS, iK0, iK, iH0, iH⟩, ⟨kA, kB⟩, ⟨hA, hB⟩, hc, ⟨hE, hT⟩, hp, hg⟩ := h
  have hT := zJt_le hT (Nat.le_succ N)
  have hg' := hg
  obtain ⟨g0, g1, g2, g3, g4, g5, g6, g7, g8, g9, g10, g11, g12⟩ := hg'
  obtain ⟨aA, aB, aW, aP, aS, aI⟩ := zArgs hg hc iC iN (p1 := p1) (p2 := p2) h1
  have c0 := iC.1
  have c1 := iC.2.1
  have h26 : ¬ zPL vg = 0 → vp_in (vg ((7 : Int32)).toNatClampNeg) 13 := by
    intro q
    have r : ni = 1 := Classical.byContradiction (fun r => q (aP.mpr r))
    obtain ⟨n0, n1⟩ := iN r
    rw [zN7, g7]
    exact zin_b n0 (by omega)
  have R0 : zRc (N + 1) ni li mi mv nx al nc nl on il ba size ki fi se th kT hT kn ho kb0 hb0 gs le wi pr tp pt fr fb vk vh vc ve vq vg := ⟨⟨iC, iG, iN, iS, iK0, iK, iH0, iH⟩, ⟨kA, kB⟩, ⟨hA, hB⟩, hc, ⟨hE, hT⟩, hp, hg⟩
  unfold rL_isMove_4 oL_isMove_4_kn oL_isMove_4_kT oL_isMove_4_hT oL_isMove_4_ni oL_isMove_4_mi oL_isMove_4_mv oL_isMove_4_nx oL_isMove_4_nc oL_isMove_4_nl oL_isMove_4_vk oL_isMove_4_vg jL_isMove_4_793_0 jL_isMove_4_793_1 jL_isMove_4_763_0 jL_isMove_4_747_0 jL_isMove_4_735_0 jL_isMove_4_682_0 jL_isMove_4_626_0 jL_isMove_4_584_0 jL_isMove_4_510_0 jL_isMove_4_524_0
  have e88 : jL_isMove_4_88_0 ni li mi mv nx al nc nl ki fi se th size on il ba kT hT kn ho vk vh vc vg p1 p2 = zAa vg vc p1 p2 := rfl
  have e114 : jL_isMove_4_114_0 ni li mi mv nx al nc nl ki fi se th size on il ba kT hT kn ho vk vh vc vg p1 p2 = zBb vg vc p1 p2 := rfl
  have e154 : jL_isMove_4_154_0 ni li mi mv nx al nc nl ki fi se th size on il ba kT hT kn ho vk vh vc vg p1 p2 = zWw vg vc p1 p2 := rfl
  have e13 : jL_isMove_4_13_0 ni li mi mv nx al nc nl ki fi se th size on il ba kT hT kn ho vk vh vc vg p1 p2 = zPL vg := rfl
  have e31 : jL_isMove_4_31_0 ni li mi mv nx al nc nl ki fi se th size on il ba kT hT kn ho vk vh vc vg p1 p2 = zST vg vc := rfl
  have e181 : jL_isMove_4_181_0 ni li mi mv nx al nc nl ki fi se th size on il ba kT hT kn ho vk vh vc vg p1 p2 = zSA vg vc p1 p2 := rfl
  have e50 : jL_isMove_4_50_0 ni li mi mv nx al nc nl ki fi se th size on il ba kT hT kn ho vk vh vc vg p1 p2 = zNE vg p2 := rfl
  simp only [e88, e114, e154, e13, e31, e181, e50]
  clear e88 e114 e154 e13 e31 e181 e50
  generalize zAa vg vc p1 p2 = a at aA aI ⊢
  generalize zBb vg vc p1 p2 = b at aB ⊢
  generalize zWw vg vc p1 p2 = w at aW ⊢
  generalize zSA vg vc p1 p2 = sa at aI ⊢
  generalize zST vg vc = st at aS ⊢
  rw [zN9, g9, zN2, g2, zLI, zLI, zN7, g7]
  have keep : ∀ x : Nat, xX7_tell ni li mi mv nx al nc nl ki fi se th size on il ba kT hT kn ho a b w = x → ¬ x = 0 → (oL_does_12_kn ni li mi mv nx al nc nl ki fi se th size on il ba kT hT kn ho a b w 0 = kn ∧ oL_does_12_kT ni li mi mv nx al nc nl ki fi se th size on il ba kT hT kn ho a b w 0 = kT ∧ oL_does_12_hT ni li mi mv nx al nc nl ki fi se th size on il ba kT hT kn ho a b w 0 = hT ∧ oL_does_12_ni ni li mi mv nx al nc nl ki fi se th size on il ba kT hT kn ho a b w 0 = ni ∧ oL_does_12_mi ni li mi mv nx al nc nl ki fi se th size on il ba kT hT kn ho a b w 0 = mi ∧ oL_does_12_mv ni li mi mv nx al nc nl ki fi se th size on il ba kT hT kn ho a b w 0 = mv ∧ oL_does_12_nx ni li mi mv nx al nc nl ki fi se th size on il ba kT hT kn ho a b w 0 = nx ∧ oL_does_12_nc ni li mi mv nx al nc nl ki fi se th size on il ba kT hT kn ho a b w 0 = nc ∧ oL_does_12_nl ni li mi mv nx al nc nl ki fi se th size on il ba kT hT kn ho a b w 0 = nl) := by
    intro x q1 q2
    unfold oL_does_12_kn oL_does_12_kT oL_does_12_hT oL_does_12_ni oL_does_12_mi oL_does_12_mv oL_does_12_nx oL_does_12_nc oL_does_12_nl
    rw [q1]
    simp only [if_neg q2]
    exact ⟨trivial, trivial, trivial, trivial, trivial, trivial, trivial, trivial, trivial⟩
  have hF1 : ¬ (if (6 : Int32) ≤ a then (0 : Int32) else (if (4 : Int32) ≤ w then (0 : Int32) else (1 : Int32))) = 0 → vp_in a 6 ∧ vp_in w 4 := by
    intro f
    rcases aA with rfl | ra
    · exact absurd (if_pos (by decide)) f
    · rcases aW with rfl | rw_
      · exfalso
        apply f
        rw [if_pos (show (4 : Int32) ≤ 4 by decide)]
        split <;> rfl
      · exact ⟨ra, rw_⟩
  have hCN : ¬ (if (if (6 : Int32) ≤ a then (0 : Int32) else (if (4 : Int32) ≤ w then (0 : Int32) else (1 : Int32))) = 0 then (0 : Int32) else (if (if a = b then (0 : Int32) else (1 : Int32)) = 0 then (0 : Int32) else (if zPL vg = 0 then (0 : Int32) else (if sa = 0 then (0 : Int32) else (if rX7_isIn on b = 0 then (0 : Int32) else (if (vk ((((24 : Int32) + ((4 : Int32) * a)) + w)).toNatClampNeg) = (1 : Int32) then (if rX7_isIn ba w = 0 then (1 : Int32) else (0 : Int32)) else (0 : Int32))))))) = 0 → (vp_in a 6 ∧ vp_in w 4) ∧ ¬ a = b ∧ ni = 1 ∧ ¬ rX7_isIn on a = 0 ∧ ¬ rX7_isIn on b = 0 ∧ yi (kn w.toNatClampNeg) a.toNatClampNeg ∧ rX7_isIn ba w = 0 := by
    intro f
    by_cases f1 : (if (6 : Int32) ≤ a then (0 : Int32) else (if (4 : Int32) ≤ w then (0 : Int32) else (1 : Int32))) = 0
    · rw [if_pos f1] at f
      exact absurd rfl f
    rw [if_neg f1] at f
    obtain ⟨ra, rw_⟩ := hF1 f1
    by_cases v2 : a = b
    · rw [if_pos v2, if_pos rfl] at f
      exact absurd rfl f
    rw [if_neg v2, if_neg z10] at f
    by_cases hpl : zPL vg = 0
    · rw [if_pos hpl] at f
      exact absurd rfl f
    rw [if_neg hpl] at f
    have q : ni = 1 := Classical.byContradiction (fun r => hpl (aP.mpr r))
    by_cases hsa : sa = 0
    · rw [if_pos hsa] at f
      exact absurd rfl f
    rw [if_neg hsa] at f
    have v3 : ¬ rX7_isIn on a = 0 := fun r => hsa (aI.mpr (Or.inr r))
    by_cases v4 : rX7_isIn on b = 0
    · rw [if_pos v4] at f
      exact absurd rfl f
    rw [if_neg v4, zc24m ra rw_] at f
    have q0 : ¬ ni = 0 := by
      rw [q]
      exact z10
    rw [if_neg q0] at kB
    have w1 : vk (24 + (4 * a.toNatClampNeg + w.toNatClampNeg)) = 1 ↔ yi (kn w.toNatClampNeg) a.toNatClampNeg := zB1 (kB _ _ (zin_lt ra) (zin_lt rw_))
    by_cases v5 : vk (24 + (4 * a.toNatClampNeg + w.toNatClampNeg)) = 1
    · rw [if_pos v5] at f
      by_cases v6 : rX7_isIn ba w = 0
      · exact ⟨⟨ra, rw_⟩, v2, q, v3, v4, w1.mp v5, v6⟩
      · rw [if_neg v6] at f
        exact absurd rfl f
    · rw [if_neg v5] at f
      exact absurd rfl f
  have hCN2 : vp_in a 6 → vp_in w 4 → ¬ a = b → ni = 1 → ¬ rX7_isIn on a = 0 → ¬ rX7_isIn on b = 0 → yi (kn w.toNatClampNeg) a.toNatClampNeg → rX7_isIn ba w = 0 → (if (if (6 : Int32) ≤ a then (0 : Int32) else (if (4 : Int32) ≤ w then (0 : Int32) else (1 : Int32))) = 0 then (0 : Int32) else (if (if a = b then (0 : Int32) else (1 : Int32)) = 0 then (0 : Int32) else (if zPL vg = 0 then (0 : Int32) else (if sa = 0 then (0 : Int32) else (if rX7_isIn on b = 0 then (0 : Int32) else (if (vk ((((24 : Int32) + ((4 : Int32) * a)) + w)).toNatClampNeg) = (1 : Int32) then (if rX7_isIn ba w = 0 then (1 : Int32) else (0 : Int32)) else (0 : Int32))))))) = 1 := by
    intro ra rw_ v2 q v3 v4 v5 v6
    have q0 : ¬ ni = 0 := by
      rw [q]
      exact z10
    rw [if_neg q0] at kB
    have w1 : vk (24 + (4 * a.toNatClampNeg + w.toNatClampNeg)) = 1 ↔ yi (kn w.toNatClampNeg) a.toNatClampNeg := zB1 (kB _ _ (zin_lt ra) (zin_lt rw_))
    rw [if_neg (znle ra (c := 6) rfl), if_neg (znle rw_ (c := 4) rfl), if_neg z10, if_neg v2, if_neg z10, if_neg (fun r => (aP.mp r) q), if_neg (fun r => (aI.mp r).elim (zvne ra rfl) v3), if_neg v4, zc24m ra rw_, if_pos (w1.mpr v5), if_pos v6]
  refine ⟨h26, ?_⟩
  generalize hcn : (if (if (6 : Int32) ≤ a then (0 : Int32) else (if (4 : Int32) ≤ w then (0 : Int32) else (1 : Int32))) = 0 then (0 : Int32) else (if (if a = b then (0 : Int32) else (1 : Int32)) = 0 then (0 : Int32) else (if zPL vg = 0 then (0 : Int32) else (if sa = 0 then (0 : Int32) else (if rX7_isIn on b = 0 then (0 : Int32) else (if (vk ((((24 : Int32) + ((4 : Int32) * a)) + w)).toNatClampNeg) = (1 : Int32) then (if rX7_isIn ba w = 0 then (1 : Int32) else (0 : Int32)) else (0 : Int32))))))) = cn at hCN hCN2 ⊢
  refine ⟨?_, ?_, ?_, ?_, ?_, ?_, ?_, ?_⟩
  · intro _ _ _ f1 _ _ _ _
    exact zi24m (hF1 f1).1 (hF1 f1).2
  · intro _ _ _ f _
    exact zi24m aB (hCN f).1.2
  · intro _ _ _ f
    exact (iN (hCN f).2.2.1).1
  · intro _ _ _ f
    exact zi24m aB (hCN f).1.2
  · intro _ _ _ f
    exact zi24m aB (hCN f).1.2
  · intro _ _ _ f _
    obtain ⟨n0, n1⟩ := iN (hCN f).2.2.1
    have hI := zInc (x := nx) (y := size) (by rw [Int32.le_iff_toInt_le]; omega)
    split
    · rw [Int32.add_zero]
      exact n0
    · omega
  · intro _ _ _ f
    exact zi24m aB (hCN f).1.2
  by_cases hc0 : cn = 0
  · have xs : xX7_tell ni li mi mv nx al nc nl ki fi se th size on il ba kT hT kn ho a b w = (if (if (6 : Int32) ≤ a then (0 : Int32) else (if (4 : Int32) ≤ w then (0 : Int32) else (1 : Int32))) = 0 then 1 else (if (if a = b then (0 : Int32) else (1 : Int32)) = 0 then 2 else 3)) := by
      unfold xX7_tell
      by_cases f1 : (if (6 : Int32) ≤ a then (0 : Int32) else (if (4 : Int32) ≤ w then (0 : Int32) else (1 : Int32))) = 0
      · rw [if_pos f1]
        rcases aA with rfl | ra
        · rw [zM6, if_neg z1n]
        · rcases aW with rfl | rw_
          · rw [if_pos (zMk ra), if_pos (zMk aB), zS4, if_neg z1n]
          · rw [if_neg (znle ra (c := 6) rfl), if_neg (znle rw_ (c := 4) rfl)] at f1
            exact absurd f1 z10
      · rw [if_neg f1]
        obtain ⟨ra, rw_⟩ := hF1 f1
        rw [if_pos (zMk ra), if_pos (zMk aB), if_pos (zSk rw_)]
        by_cases v2 : a = b
        · rw [zUn2 v2, if_neg z2n, if_pos v2, if_pos rfl]
        · rw [if_pos (zUn0 v2), if_neg v2, if_neg z10]
          by_cases q : ni = 1
          · rw [if_pos (zPL0 q)]
            by_cases v3 : rX7_isIn on a = 0
            · rw [zOn3 v3, if_neg z3n]
            · rw [if_pos (zOn0 v3)]
              by_cases v4 : rX7_isIn on b = 0
              · rw [zOn3 v4, if_neg z3n]
              · rw [if_pos (zOn0 v4)]
                unfold rX2_isKnower
                by_cases v5 : rX7_isIn (kn w.toNatClampNeg) a = 0
                · rw [if_pos v5]
                · rw [if_neg v5]
                  by_cases v6 : rX7_isIn ba w = 0
                  · have z := hCN2 ra rw_ v2 q v3 v4 (Classical.byContradiction (fun r => v5 ((yi_is0 ra).mpr r))) v6
                    rw [hc0] at z
                    exact absurd z.symm z10
                  · rw [if_neg v6]
          · rw [zPL3 q, if_neg z3n]
    simp only [if_pos hc0]
    by_cases f1 : (if (6 : Int32) ≤ a then (0 : Int32) else (if (4 : Int32) ≤ w then (0 : Int32) else (1 : Int32))) = 0
    · rw [if_pos f1] at xs
      obtain ⟨k0, k1, k2, k3, k4, k5, k6, k7, k8⟩ := keep 1 xs z1n
      rw [k0, k1, k2, k3, k4, k5, k6, k7, k8]
      simp only [if_pos f1]
      refine ⟨?_, R0⟩
      unfold rL_does_12
      rw [xs, if_neg z1n, if_pos rfl, if_pos rfl]
    · rw [if_neg f1] at xs
      by_cases f2 : (if a = b then (0 : Int32) else (1 : Int32)) = 0
      · rw [if_pos f2] at xs
        obtain ⟨k0, k1, k2, k3, k4, k5, k6, k7, k8⟩ := keep 2 xs z2n
        rw [k0, k1, k2, k3, k4, k5, k6, k7, k8]
        simp only [if_neg f1, if_pos f2]
        refine ⟨?_, R0⟩
        unfold rL_does_12
        rw [xs, if_neg z2n, if_neg z21n, if_pos rfl, if_pos rfl]
      · rw [if_neg f2] at xs
        obtain ⟨k0, k1, k2, k3, k4, k5, k6, k7, k8⟩ := keep 3 xs z3n
        rw [k0, k1, k2, k3, k4, k5, k6, k7, k8]
        simp only [if_neg f1, if_neg f2]
        refine ⟨?_, R0⟩
        unfold rL_does_12
        rw [xs, if_neg z3n, if_neg z31n, if_neg z32n, if_pos rfl]
  · obtain ⟨⟨ra, rw_⟩, v2, q, v3, v4, v5, v6⟩ := hCN hc0
    simp only [if_neg hc0]
    have hlw := zin_lt rw_
    have q0 : ¬ ni = 0 := by
      rw [q]
      exact z10
    rw [if_neg q0] at kB hB
    obtain ⟨n0, n1⟩ := iN q
    have hsz : ¬ size ≤ nx := by
      rw [Int32.le_iff_toInt_le]
      omega
    have hn : nx.toNatClampNeg < 12 := by
      have e := zcn n0
      omega
    have iC' := iC
    obtain ⟨_, _, r2, r3, r4, r5, r6⟩ := iC'
    have hI := zInc hsz
    have ka : ¬ rX7_isIn (kn w.toNatClampNeg) a = 0 := fun r => ((yi_is0 ra).mp r) v5
    have xs : xX7_tell ni li mi mv nx al nc nl ki fi se th size on il ba kT hT kn ho a b w = 0 := by
      unfold xX7_tell rX2_isKnower
      rw [if_pos (zMk ra), if_pos (zMk aB), if_pos (zSk rw_), if_pos (zUn0 v2), if_pos (zPL0 q), if_pos (zOn0 v3), if_pos (zOn0 v4), if_neg ka, if_pos v6]
    have w0 : vk (24 + (4 * b.toNatClampNeg + w.toNatClampNeg)) = 0 ↔ ¬ yi (kn w.toNatClampNeg) b.toNatClampNeg := zB0 (kB _ _ (zin_lt aB) hlw)
    have w1 : vk (24 + (4 * b.toNatClampNeg + w.toNatClampNeg)) = 1 ↔ yi (kn w.toNatClampNeg) b.toNatClampNeg := zB1 (kB _ _ (zin_lt aB) hlw)
    have ib := yi_is0 (x := kn w.toNatClampNeg) aB
    have hg0 : vg ((0 : Int32)).toNatClampNeg = size := by rw [zN0, g0]
    have hg1 : vg ((1 : Int32)).toNatClampNeg = il := by rw [zN1, g1]
    have hg2 : vg ((2 : Int32)).toNatClampNeg = ba := by rw [zN2, g2]
    have CC := fun (kT' hT' : Nat → Int32) => zCC vk vh vc vg ki fi se th kT' hT' kn ho size on il ba nx hg0 hg1 hg2 c1 hc r2 r3 r4 r5 n0 kB hB iK.1 iH.1
    rw [zc24m aB rw_]
    by_cases kb : yi (kn w.toNatClampNeg) b.toNatClampNeg
    · have vkp := w1.mpr kb
      have vk0 : ¬ vk (24 + (4 * b.toNatClampNeg + w.toNatClampNeg)) = 0 := fun r => (w0.mp r) kb
      have same : upd vk (24 + (4 * b.toNatClampNeg + w.toNatClampNeg)) (1 : Int32) = vk := by
        rw [← vkp, zUpS]
      have eN : (if st = ((((8 : Int32) * a) + ((64 : Int32) * b)) + ((512 : Int32) * w)) then (if vk (24 + (4 * b.toNatClampNeg + w.toNatClampNeg)) = 0 then (1 : Int32) else (0 : Int32)) else (0 : Int32)) = 0 := by
        rw [if_neg vk0]
        split <;> rfl
      simp only [same, eN, if_true, Int32.add_zero]
      have eB : (if rL_closes vk vh vc vg nx = 0 then (0 : Int32) else (if rL_closes vk vh vc vg nx = 0 then (1 : Int32) else (0 : Int32))) = 0 := by
        by_cases z : rL_closes vk vh vc vg nx = 0
        · rw [if_pos z]
        · rw [if_neg z, if_neg z]
      simp only [eB, if_true, same]
      have j90 : jX7_tell_90_0 ni li mi mv nx al nc nl ki fi se th size on il ba kT hT kn ho a b w = 0 := by
        unfold jX7_tell_90_0 rX2_isKnower
        rw [if_neg (fun r => (ib.mp r) kb)]
      have j120 : jX7_tell_120_0 ni li mi mv nx al nc nl ki fi se th size on il ba kT hT kn ho a b w = 0 := by
        unfold jX7_tell_120_0
        rw [if_pos j90]
      obtain ⟨M1, M2⟩ := zMV ki fi se th hg q n0 n1 c1 (d := 0) (Or.inl rfl)
      have k : oL_does_12_kn ni li mi mv nx al nc nl ki fi se th size on il ba kT hT kn ho a b w 0 = kn ∧ oL_does_12_ni ni li mi mv nx al nc nl ki fi se th size on il ba kT hT kn ho a b w 0 = oX7_endMove_ni ni li mi mv nx al nc nl ki fi se th size 0 ∧ oL_does_12_mi ni li mi mv nx al nc nl ki fi se th size on il ba kT hT kn ho a b w 0 = oX7_endMove_mi ni li mi mv nx al nc nl ki fi se th size 0 ∧ oL_does_12_mv ni li mi mv nx al nc nl ki fi se th size on il ba kT hT kn ho a b w 0 = oX7_endMove_mv ni li mi mv nx al nc nl ki fi se th size 0 ∧ oL_does_12_nx ni li mi mv nx al nc nl ki fi se th size on il ba kT hT kn ho a b w 0 = oX7_endMove_nx ni li mi mv nx al nc nl ki fi se th size 0 ∧ oL_does_12_nc ni li mi mv nx al nc nl ki fi se th size on il ba kT hT kn ho a b w 0 = oX7_endMove_nc ni li mi mv nx al nc nl ki fi se th size 0 ∧ oL_does_12_nl ni li mi mv nx al nc nl ki fi se th size on il ba kT hT kn ho a b w 0 = oX7_endMove_nl ni li mi mv nx al nc nl ki fi se th size 0 := by
        unfold oL_does_12_kn oL_does_12_ni oL_does_12_mi oL_does_12_mv oL_does_12_nx oL_does_12_nc oL_does_12_nl oX7_tell_kn oX7_tell_ni oX7_tell_mi oX7_tell_mv oX7_tell_nx oX7_tell_nc oX7_tell_nl
        rw [xs, j90, j120]
        refine ⟨?_, rfl, rfl, rfl, rfl, rfl, rfl⟩
        show oX2_learn_fk kn ho b w = kn
        unfold oX2_learn_fk
        rw [yi_abs aB kb, zUpS]
      obtain ⟨k0, k1, k2, k3, k4, k5, k6⟩ := k
      rw [k0, k1, k2, k3, k4, k5, k6]
      refine ⟨?_, ⟨iC, iG, yNE q iN c1, iS, iK0, iK, iH0, iH⟩, ⟨kA, ?_⟩, ⟨hA, ?_⟩, hc, ⟨hE, hT⟩, hp, M1⟩
      · unfold rL_does_12 rX7_tell
        rw [xs, if_pos rfl, if_pos j90, j120, M2]
        exact if_pos rfl
      · rw [if_neg (zEMn q)]
        exact kB
      · rw [if_neg (zEMn q)]
        exact hB
    · have vk0 := w0.mpr kb
      have e8 : ((((8 : Int32) * a) + ((64 : Int32) * b)) + ((512 : Int32) * w)) = zcd 0 a b w := by
        unfold zcd
        rw [Int32.zero_add]
      have zi := zcd_inj (r2 _ hn) (r3 _ hn) (r4 _ hn) (r5 _ hn) (k' := 0) (by unfold vp_in; decide) ra aB rw_
      have j90 : jX7_tell_90_0 ni li mi mv nx al nc nl ki fi se th size on il ba kT hT kn ho a b w = 1 := by
        unfold jX7_tell_90_0 rX2_isKnower
        rw [if_pos (ib.mpr kb)]
      simp only [vk0, if_true]
      have kk1 : zJk (fun j => upd vk (24 + (4 * b.toNatClampNeg + w.toNatClampNeg)) (1 : Int32) (24 + j)) (upd kn w.toNatClampNeg (kn w.toNatClampNeg ||| ((1 : Int32) <<< (b &&& 31)))) := by
        rw [zsk]
        exact zJk_or kB aB rw_
      have iK1 : yKn (upd kn w.toNatClampNeg (kn w.toNatClampNeg ||| ((1 : Int32) <<< (b &&& 31)))) := yKn_upd iK hlw (v_or (iK.1 _ hlw) aB)
      have CC1 := fun (kT' hT' : Nat → Int32) (p : Int32) (h0 : 0 ≤ p.toInt) => zCC (upd vk (24 + (4 * b.toNatClampNeg + w.toNatClampNeg)) (1 : Int32)) vh vc vg ki fi se th kT' hT' (upd kn w.toNatClampNeg (kn w.toNatClampNeg ||| ((1 : Int32) <<< (b &&& 31)))) ho size on il ba p hg0 hg1 hg2 c1 hc r2 r3 r4 r5 h0 kk1 hB iK1.1 iH.1
      have kk2 : zJk (upd (upd vk (24 + (4 * b.toNatClampNeg + w.toNatClampNeg)) (1 : Int32)) (24 + (4 * b.toNatClampNeg + w.toNatClampNeg)) (1 : Int32)) kb0 := zJk_t (zJk_t kA (by omega) _) (by omega) _
      have uu : upd (upd vk (24 + (4 * b.toNatClampNeg + w.toNatClampNeg)) (1 : Int32)) (24 + (4 * b.toNatClampNeg + w.toNatClampNeg)) (1 : Int32) = upd vk (24 + (4 * b.toNatClampNeg + w.toNatClampNeg)) (1 : Int32) := by
        funext j
        rw [yupd32, yupd32]
        split <;> rfl
      have uz : upd (upd vk (24 + (4 * b.toNatClampNeg + w.toNatClampNeg)) (1 : Int32)) (24 + (4 * b.toNatClampNeg + w.toNatClampNeg)) (0 : Int32) = vk := by
        funext j
        rw [yupd32, yupd32]
        by_cases z : j = 24 + (4 * b.toNatClampNeg + w.toNatClampNeg)
        · rw [if_pos z, z, vk0]
        · rw [if_neg z, if_neg z]
      by_cases hd : st = ((((8 : Int32) * a) + ((64 : Int32) * b)) + ((512 : Int32) * w))
      · have hst := hd
        rw [aS q, e8] at hst
        obtain ⟨y1, y2, y3, y4⟩ := zi.mp hst
        have ij : rX0_isJust ki fi se th size nx 0 a b w = 1 := by
          rw [zIJ n0 n1, if_pos y1, if_neg (show ¬ (0 : Int32) = 2 by decide), if_neg (show ¬ (0 : Int32) = 3 by decide), if_neg (show ¬ (0 : Int32) = 4 by decide)]
          unfold jX0_isJust_50_0
          rw [if_pos y2, if_pos y3, if_neg z10, if_pos y4]
        have j120 : jX7_tell_120_0 ni li mi mv nx al nc nl ki fi se th size on il ba kT hT kn ho a b w = 1 := by
          unfold jX7_tell_120_0
          rw [if_neg (by rw [j90]; exact z10), if_neg (by rw [ij]; exact z10)]
        simp only [if_pos hd, if_neg z10]
        have eB : (if rL_closes vk vh vc vg nx = 0 then (0 : Int32) else (if rL_closes (upd vk (24 + (4 * b.toNatClampNeg + w.toNatClampNeg)) (1 : Int32)) vh vc vg (nx + (1 : Int32)) = 0 then (1 : Int32) else (0 : Int32))) = 0 := by
          by_cases z : rL_closes vk vh vc vg nx = 0
          · rw [if_pos z]
          · rw [if_neg z]
            have z2 := z
            rw [CC kT hT] at z2
            have td := yTD ki fi se th kT hT kT hT kn ho size on il ba nx c1 r3 r4 r5 n0 hsz z2 y1 (by rw [y2, y4]; exact ka)
            rw [y3, y4] at td
            rw [CC1 kT hT (nx + 1) (by omega), if_neg td]
        simp only [eB, if_true, uu]
        obtain ⟨M1, M2⟩ := zMV ki fi se th hg q n0 n1 c1 (d := 1) (Or.inr rfl)
        have k : oL_does_12_kn ni li mi mv nx al nc nl ki fi se th size on il ba kT hT kn ho a b w 0 = upd kn w.toNatClampNeg (kn w.toNatClampNeg ||| ((1 : Int32) <<< (b &&& 31))) ∧ oL_does_12_ni ni li mi mv nx al nc nl ki fi se th size on il ba kT hT kn ho a b w 0 = oX7_endMove_ni ni li mi mv nx al nc nl ki fi se th size 1 ∧ oL_does_12_mi ni li mi mv nx al nc nl ki fi se th size on il ba kT hT kn ho a b w 0 = oX7_endMove_mi ni li mi mv nx al nc nl ki fi se th size 1 ∧ oL_does_12_mv ni li mi mv nx al nc nl ki fi se th size on il ba kT hT kn ho a b w 0 = oX7_endMove_mv ni li mi mv nx al nc nl ki fi se th size 1 ∧ oL_does_12_nx ni li mi mv nx al nc nl ki fi se th size on il ba kT hT kn ho a b w 0 = oX7_endMove_nx ni li mi mv nx al nc nl ki fi se th size 1 ∧ oL_does_12_nc ni li mi mv nx al nc nl ki fi se th size on il ba kT hT kn ho a b w 0 = oX7_endMove_nc ni li mi mv nx al nc nl ki fi se th size 1 ∧ oL_does_12_nl ni li mi mv nx al nc nl ki fi se th size on il ba kT hT kn ho a b w 0 = oX7_endMove_nl ni li mi mv nx al nc nl ki fi se th size 1 := by
          unfold oL_does_12_kn oL_does_12_ni oL_does_12_mi oL_does_12_mv oL_does_12_nx oL_does_12_nc oL_does_12_nl oX7_tell_kn oX7_tell_ni oX7_tell_mi oX7_tell_mv oX7_tell_nx oX7_tell_nc oX7_tell_nl
          rw [xs, j90, j120]
          exact ⟨rfl, rfl, rfl, rfl, rfl, rfl, rfl⟩
        obtain ⟨k0, k1, k2, k3, k4, k5, k6⟩ := k
        rw [k0, k1, k2, k3, k4, k5, k6]
        rw [uu] at kk2
        refine ⟨?_, ⟨iC, iG, yNE q iN c1, iS, iK0, iK1, iH0, iH⟩, ⟨kk2, ?_⟩, ⟨hA, ?_⟩, hc, ⟨hE, hT⟩, hp, M1⟩
        · unfold rL_does_12 rX7_tell
          rw [xs, if_pos rfl, if_neg (by rw [j90]; exact z10), if_neg (by rw [j120]; exact z10), j120, M2]
          exact if_pos rfl
        · rw [if_neg (zEMn q)]
          exact kk1
        · rw [if_neg (zEMn q)]
          exact hB
      · have ij : rX0_isJust ki fi se th size nx 0 a b w = 0 := by
          rw [zIJ n0 n1]
          by_cases y1 : ki nx.toNatClampNeg = 0
          · rw [if_pos y1, if_neg (show ¬ (0 : Int32) = 2 by decide), if_neg (show ¬ (0 : Int32) = 3 by decide), if_neg (show ¬ (0 : Int32) = 4 by decide)]
            unfold jX0_isJust_50_0
            by_cases y2 : fi nx.toNatClampNeg = a
            · rw [if_pos y2]
              by_cases y3 : se nx.toNatClampNeg = b
              · rw [if_pos y3, if_neg z10]
                by_cases y4 : th nx.toNatClampNeg = w
                · refine absurd ?_ hd
                  rw [aS q, e8]
                  exact zi.mpr ⟨y1, y2, y3, y4⟩
                · rw [if_neg y4]
              · rw [if_neg y3, if_pos rfl]
            · rw [if_neg y2, if_pos rfl]
          · rw [if_neg y1]
        have j120 : jX7_tell_120_0 ni li mi mv nx al nc nl ki fi se th size on il ba kT hT kn ho a b w = 0 := by
          unfold jX7_tell_120_0
          rw [if_neg (by rw [j90]; exact z10), if_pos ij]
        simp only [if_neg hd, if_true, Int32.add_zero]
        have fg : oX2_forget_fk (oX2_learn_fk kn ho b w) ho b w = kn := by
          unfold oX2_forget_fk oX2_learn_fk
          funext j
          rw [yupd32, zuE, yupd32]
          by_cases z : j = w.toNatClampNeg
          · rw [if_pos z, z]
            exact yi_back aB kb
          · rw [if_neg z, if_neg z]
        have wk : oX7_wouldSpoil_kn ni li mi mv nx al nc nl ki fi se th size on il ba kT hT kn ho b w = kn := by
          unfold oX7_wouldSpoil_kn
          rw [fg, ite_self]
        have ws : rX7_wouldSpoil ni li mi mv nx al nc nl ki fi se th size on il ba kT hT kn ho b w = (if rL_closes vk vh vc vg nx = 0 then (0 : Int32) else (if rL_closes (upd vk (24 + (4 * b.toNatClampNeg + w.toNatClampNeg)) (1 : Int32)) vh vc vg nx = 0 then (1 : Int32) else (0 : Int32))) := by
          unfold rX7_wouldSpoil
          rw [CC kT hT, CC1 (oX3_canBeClosed_kT ki fi se th size on il ba kT hT kn ho nx) (oX3_canBeClosed_hT ki fi se th size on il ba kT hT kn ho nx) nx n0]
          rfl
        generalize hBL : (if rL_closes vk vh vc vg nx = 0 then (0 : Int32) else (if rL_closes (upd vk (24 + (4 * b.toNatClampNeg + w.toNatClampNeg)) (1 : Int32)) vh vc vg nx = 0 then (1 : Int32) else (0 : Int32))) = bl at ws ⊢
        by_cases hb : bl = 0
        · simp only [if_pos hb, uu]
          rw [hb] at ws
          obtain ⟨M1, M2⟩ := zMV ki fi se th hg q n0 n1 c1 (d := 0) (Or.inl rfl)
          have k : oL_does_12_kn ni li mi mv nx al nc nl ki fi se th size on il ba kT hT kn ho a b w 0 = upd kn w.toNatClampNeg (kn w.toNatClampNeg ||| ((1 : Int32) <<< (b &&& 31))) ∧ oL_does_12_ni ni li mi mv nx al nc nl ki fi se th size on il ba kT hT kn ho a b w 0 = oX7_endMove_ni ni li mi mv nx al nc nl ki fi se th size 0 ∧ oL_does_12_mi ni li mi mv nx al nc nl ki fi se th size on il ba kT hT kn ho a b w 0 = oX7_endMove_mi ni li mi mv nx al nc nl ki fi se th size 0 ∧ oL_does_12_mv ni li mi mv nx al nc nl ki fi se th size on il ba kT hT kn ho a b w 0 = oX7_endMove_mv ni li mi mv nx al nc nl ki fi se th size 0 ∧ oL_does_12_nx ni li mi mv nx al nc nl ki fi se th size on il ba kT hT kn ho a b w 0 = oX7_endMove_nx ni li mi mv nx al nc nl ki fi se th size 0 ∧ oL_does_12_nc ni li mi mv nx al nc nl ki fi se th size on il ba kT hT kn ho a b w 0 = oX7_endMove_nc ni li mi mv nx al nc nl ki fi se th size 0 ∧ oL_does_12_nl ni li mi mv nx al nc nl ki fi se th size on il ba kT hT kn ho a b w 0 = oX7_endMove_nl ni li mi mv nx al nc nl ki fi se th size 0 := by
            unfold oL_does_12_kn oL_does_12_ni oL_does_12_mi oL_does_12_mv oL_does_12_nx oL_does_12_nc oL_does_12_nl oX7_tell_kn oX7_tell_ni oX7_tell_mi oX7_tell_mv oX7_tell_nx oX7_tell_nc oX7_tell_nl
            rw [xs, j90, j120, ws, wk]
            exact ⟨rfl, rfl, rfl, rfl, rfl, rfl, rfl⟩
          obtain ⟨k0, k1, k2, k3, k4, k5, k6⟩ := k
          rw [k0, k1, k2, k3, k4, k5, k6]
          rw [uu] at kk2
          refine ⟨?_, ⟨iC, iG, yNE q iN c1, iS, iK0, iK1, iH0, iH⟩, ⟨kk2, ?_⟩, ⟨hA, ?_⟩, hc, ⟨hE, hT⟩, hp, M1⟩
          · unfold rL_does_12 rX7_tell
            rw [xs, if_pos rfl, if_neg (by rw [j90]; exact z10), if_pos j120, if_pos ws, j120, M2]
            exact if_pos rfl
          · rw [if_neg (zEMn q)]
            exact kk1
          · rw [if_neg (zEMn q)]
            exact hB
        · have ws2 : ¬ rX7_wouldSpoil ni li mi mv nx al nc nl ki fi se th size on il ba kT hT kn ho b w = 0 := by
            rw [ws]
            exact hb
          simp only [if_neg hb, uz]
          have k : oL_does_12_kn ni li mi mv nx al nc nl ki fi se th size on il ba kT hT kn ho a b w 0 = kn ∧ oL_does_12_ni ni li mi mv nx al nc nl ki fi se th size on il ba kT hT kn ho a b w 0 = ni ∧ oL_does_12_mi ni li mi mv nx al nc nl ki fi se th size on il ba kT hT kn ho a b w 0 = mi ∧ oL_does_12_mv ni li mi mv nx al nc nl ki fi se th size on il ba kT hT kn ho a b w 0 = mv ∧ oL_does_12_nx ni li mi mv nx al nc nl ki fi se th size on il ba kT hT kn ho a b w 0 = nx ∧ oL_does_12_nc ni li mi mv nx al nc nl ki fi se th size on il ba kT hT kn ho a b w 0 = nc ∧ oL_does_12_nl ni li mi mv nx al nc nl ki fi se th size on il ba kT hT kn ho a b w 0 = nl := by
            unfold oL_does_12_kn oL_does_12_ni oL_does_12_mi oL_does_12_mv oL_does_12_nx oL_does_12_nc oL_does_12_nl oX7_tell_kn oX7_tell_ni oX7_tell_mi oX7_tell_mv oX7_tell_nx oX7_tell_nc oX7_tell_nl
            rw [xs, j90, j120, wk]
            simp only [if_neg ws2, if_neg z10, if_true]
            exact ⟨trivial, trivial, trivial, trivial, trivial, trivial, trivial⟩
          obtain ⟨k0, k1, k2, k3, k4, k5, k6⟩ := k
          rw [k0, k1, k2, k3, k4, k5, k6]
          refine ⟨?_, ⟨iC, iG, iN, iS, iK0, iK, iH0, iH⟩, ⟨kA, ?_⟩, ⟨hA, ?_⟩, hc, ⟨hE, hT⟩, hp, hg⟩
          · unfold rL_does_12 rX7_tell
            rw [xs, if_pos rfl, if_neg (by rw [j90]; exact z10), if_pos j120, if_neg ws2, if_pos rfl]
          · rw [if_neg q0]
            exact kB
          · rw [if_neg q0]
            exact hB
/-! what the class is asked after each call -/
theorem zCmpD {x : UInt64} (h : vf_n64 x) : Op.cmpValue (FP.dcmp x x) .l = 0 := by
  have ht : FP.Core.b64.tails = 4503599627370496 := by decide
  have he : FP.Core.b64.exps = 2048 := by decide
  have hm : x.toNat % 2 ^ 63 ≤ 9218868437227405312 := by
    unfold vf_n64 at h
    rw [UInt64.le_iff_toNat_le, UInt64.toNat_and] at h
    have e1 : (0x7fffffffffffffff : UInt64).toNat = 2 ^ 63 - 1 := by decide
    rw [e1, Nat.and_two_pow_sub_one_eq_mod] at h
    exact h
  have hn : FP.Core.decode FP.Core.b64 x.toNat ≠ .nan := by
    have := x.toNat_lt
    unfold FP.Core.decode FP.Core.fieldE FP.Core.fieldT
    rw [ht, he]
    split
    · rw [if_pos (by omega)]
      exact fun h => by cases h
    · split <;> exact fun h => by cases h
  have hc : ∀ a : Int, compare a a = Ordering.eq := fun a => by simp [compare, compareOfLessAndEq]
  show Op.cmpValue (FP.Core.order (FP.Core.decode FP.Core.b64 x.toNat) (FP.Core.decode FP.Core.b64 x.toNat)) .l = 0
  revert hn
  generalize FP.Core.decode FP.Core.b64 x.toNat = d
  intro hn
  cases d with
  | nan => exact absurd rfl hn
  | inf s =>
    show Op.cmpValue (some (compare _ _)) .l = 0
    rw [hc]
    rfl
  | fin s c q =>
    show Op.cmpValue (some (compare _ _)) .l = 0
    rw [hc]
    rfl
theorem zMpos (ki fi se th kn ho : Nat → Int32) (size on il ba nx : Int32) (h0 : 0 ≤ nx.toInt) (hlt : nx.toInt < size.toInt) : ¬ rX4_movesTo ki fi se th size on il ba kn ho nx ≤ 0 := by
  unfold rX4_movesTo rX4_toHear rX4_toGet rX4_toHaveOn
  rw [if_neg (ynn h0), if_pos (show nx < size by rw [Int32.lt_iff_toInt_lt]; exact hlt)]
  repeat' split
  all_goals decide
theorem zsu (ni : Int32)(li : Int32)(mi : Int32)(mv : Int32)(nx : Int32)(al : Int32)(nc : Int32)(nl : Int32)(ki : Nat → Int32)(fi : Nat → Int32)(se : Nat → Int32)(th : Nat → Int32)(size : Int32)(on : Int32)(il : Int32)(ba : Int32)(kT : Nat → Int32)(hT : Nat → Int32)(kn : Nat → Int32)(ho : Nat → Int32)(fr : Nat → Int64)(fb : Nat → Int64)(kb0 : Nat → Int32)(hb0 : Nat → Int32)(pt : Nat → Int32)(vk : Nat → Int32)(vh : Nat → Int32)(vc : Nat → Int32)(vq : Nat → Int32)(vg : Nat → Int32)(p1 : Int32) (hq : ∀ j : Nat, j < 6 → vq j = pt j) (msk : Int32) : ∀ (n : Nat) (su i : Int32), 0 ≤ i.toInt → i.toInt ≤ 6 → 6 - i.toInt < n → ∃ i' : Int32, lX7_share_8_r ni li mi mv nx al nc nl pt msk n su i = qX7_share_29_r ni li mi mv nx al nc nl pt msk (lL_isSo_191_su1 ni li mi mv nx al nc nl ki fi se th size on il ba kT hT kn ho fr fb kb0 hb0 pt vk vh vc vq vg p1 n su i) i' := by
  intro n
  induction n with
  | zero =>
    intro su i h0 h2 h1
    omega
  | succ n ih =>
    intro su i h0 h2 h1
    have e6 : (6 : Int32).toInt = 6 := rfl
    rw [lX7_share_8_r, lL_isSo_191_su1]
    by_cases hc : (6 : Int32) ≤ i
    · rw [if_pos hc, if_pos hc]
      exact ⟨i, rfl⟩
    · rw [if_neg hc, if_neg hc]
      have hI := zInc hc
      have hi : vp_in i 6 := zin_c h0 hc (by decide)
      have hi2 := vp_in_iff.mp hi
      rw [hq _ (zin_lt hi)]
      exact ih _ (i + 1) (by omega) (by omega) (by omega)
set_option maxHeartbeats 4000000 in
theorem zT_so {N : Nat} {ni li mi mv nx al nc nl on il ba size : Int32} {ki fi se th kT hT kn ho kb0 hb0 : Nat → Int32} {gs : Int32} {le wi pr tp pt : Nat → Int32} {fr fb : Nat → Int64} {vk vh vc ve vq vg : Nat → Int32} (h : zRc N ni li mi mv nx al nc nl on il ba size ki fi se th kT hT kn ho kb0 hb0 gs le wi pr tp pt fr fb vk vh vc ve vq vg) (p1 : Int32) (h1 : 0 ≤ p1.toInt) : ((vg ((4 : Int32)).toNatClampNeg) = (1 : Int32) → ¬ (rL_closes vk vh vc vg (vg ((7 : Int32)).toNatClampNeg)) = 0 → vp_in ((vc ((vg ((7 : Int32)).toNatClampNeg)).toNatClampNeg) / (512 : Int32)) 4) ∧ ((vg ((4 : Int32)).toNatClampNeg) = (1 : Int32) → 0 ≤ (vg ((7 : Int32)).toNatClampNeg).toInt) ∧ ((vg ((4 : Int32)).toNatClampNeg) = (1 : Int32) → ¬ (rL_closes vk vh vc vg (vg ((7 : Int32)).toNatClampNeg)) = 0 → vp_in (vg ((7 : Int32)).toNatClampNeg) 13) ∧ ((vg ((4 : Int32)).toNatClampNeg) = (1 : Int32) → ¬ (rL_closes vk vh vc vg (vg ((7 : Int32)).toNatClampNeg)) = 0 → vp_in (vg ((7 : Int32)).toNatClampNeg) 13) ∧ ((vg ((4 : Int32)).toNatClampNeg) = (1 : Int32) → ¬ (rL_closes vk vh vc vg (vg ((7 : Int32)).toNatClampNeg)) = 0 → vp_in (vg ((7 : Int32)).toNatClampNeg) 13) ∧ ((vg ((4 : Int32)).toNatClampNeg) = (1 : Int32) → ¬ (rL_closes vk vh vc vg (vg ((7 : Int32)).toNatClampNeg)) = 0 → vp_in (vg ((7 : Int32)).toNatClampNeg) 13) ∧ ((vg ((4 : Int32)).toNatClampNeg) = (1 : Int32) → ¬ (rL_closes vk vh vc vg (vg ((7 : Int32)).toNatClampNeg)) = 0 → ¬ (zRem (vc ((vg ((7 : Int32)).toNatClampNeg)).toNatClampNeg) (8 : Int32)) = (2 : Int32) → ¬ (zRem (vc ((vg ((7 : Int32)).toNatClampNeg)).toNatClampNeg) (8 : Int32)) = (3 : Int32) → (zRem (vc ((vg ((7 : Int32)).toNatClampNeg)).toNatClampNeg) (8 : Int32)) = (1 : Int32) → vp_in ((4 : Int32) + ((vc ((vg ((7 : Int32)).toNatClampNeg)).toNatClampNeg) / (512 : Int32))) 9) ∧ ((vg ((4 : Int32)).toNatClampNeg) = (1 : Int32) → ¬ (rL_closes vk vh vc vg (vg ((7 : Int32)).toNatClampNeg)) = 0 → ¬ (zRem (vc ((vg ((7 : Int32)).toNatClampNeg)).toNatClampNeg) (8 : Int32)) = (2 : Int32) → ¬ (zRem (vc ((vg ((7 : Int32)).toNatClampNeg)).toNatClampNeg) (8 : Int32)) = (3 : Int32) → (zRem (vc ((vg ((7 : Int32)).toNatClampNeg)).toNatClampNeg) (8 : Int32)) = (1 : Int32) → ¬ (vh (((4 : Int32) + ((vc ((vg ((7 : Int32)).toNatClampNeg)).toNatClampNeg) / (512 : Int32)))).toNatClampNeg) = ((zRem ((vc ((vg ((7 : Int32)).toNatClampNeg)).toNatClampNeg) / (8 : Int32)) (8 : Int32)) + (1 : Int32)) → vp_in ((4 : Int32) + ((vc ((vg ((7 : Int32)).toNatClampNeg)).toNatClampNeg) / (512 : Int32))) 9) ∧ ((vg ((4 : Int32)).toNatClampNeg) = (1 : Int32) → ¬ (rL_closes vk vh vc vg (vg ((7 : Int32)).toNatClampNeg)) = 0 → ¬ (zRem (vc ((vg ((7 : Int32)).toNatClampNeg)).toNatClampNeg) (8 : Int32)) = (2 : Int32) → ¬ (zRem (vc ((vg ((7 : Int32)).toNatClampNeg)).toNatClampNeg) (8 : Int32)) = (3 : Int32) → (zRem (vc ((vg ((7 : Int32)).toNatClampNeg)).toNatClampNeg) (8 : Int32)) = 0 → vp_in (((24 : Int32) + ((4 : Int32) * (zRem ((vc ((vg ((7 : Int32)).toNatClampNeg)).toNatClampNeg) / (8 : Int32)) (8 : Int32)))) + ((vc ((vg ((7 : Int32)).toNatClampNeg)).toNatClampNeg) / (512 : Int32))) 49) ∧ (¬ (lL_isSo_144_is2 ni li mi mv nx al nc nl ki fi se th size on il ba kT hT kn ho fr fb kb0 hb0 pt vk vh vc vq vg p1 5 (lL_isSo_85_is1 ni li mi mv nx al nc nl ki fi se th size on il ba kT hT kn ho fr fb kb0 hb0 pt vk vh vc vq vg p1 25 (jL_isSo_80_0 ni li mi mv nx al nc nl ki fi se th size on il ba kT hT kn ho fr fb kb0 hb0 pt vk vh vc vq vg p1) (0 : Int32)) (0 : Int32)) = 0 → (rX7_count ni li mi mv nx al nc nl on il ba (0 : Int32)) = (vg ((6 : Int32)).toNatClampNeg) → (rX7_count ni li mi mv nx al nc nl on il ba (1 : Int32)) = (vg ((10 : Int32)).toNatClampNeg) → (rX7_count ni li mi mv nx al nc nl on il ba (2 : Int32)) = (vg ((11 : Int32)).toNatClampNeg) → (rX7_count ni li mi mv nx al nc nl on il ba (3 : Int32)) = (vg ((12 : Int32)).toNatClampNeg) → (rX7_count ni li mi mv nx al nc nl on il ba (4 : Int32)) = (vg ((9 : Int32)).toNatClampNeg) → (rX7_count ni li mi mv nx al nc nl on il ba (5 : Int32)) = (vg ((8 : Int32)).toNatClampNeg) → (xX7_share ni li mi mv nx al nc nl pt (zRem p1 (6 : Int32))) = 0) ∧ (¬ (lL_isSo_144_is2 ni li mi mv nx al nc nl ki fi se th size on il ba kT hT kn ho fr fb kb0 hb0 pt vk vh vc vq vg p1 5 (lL_isSo_85_is1 ni li mi mv nx al nc nl ki fi se th size on il ba kT hT kn ho fr fb kb0 hb0 pt vk vh vc vq vg p1 25 (jL_isSo_80_0 ni li mi mv nx al nc nl ki fi se th size on il ba kT hT kn ho fr fb kb0 hb0 pt vk vh vc vq vg p1) (0 : Int32)) (0 : Int32)) = 0 → (rX7_count ni li mi mv nx al nc nl on il ba (0 : Int32)) = (vg ((6 : Int32)).toNatClampNeg) → (rX7_count ni li mi mv nx al nc nl on il ba (1 : Int32)) = (vg ((10 : Int32)).toNatClampNeg) → (rX7_count ni li mi mv nx al nc nl on il ba (2 : Int32)) = (vg ((11 : Int32)).toNatClampNeg) → (rX7_count ni li mi mv nx al nc nl on il ba (3 : Int32)) = (vg ((12 : Int32)).toNatClampNeg) → (rX7_count ni li mi mv nx al nc nl on il ba (4 : Int32)) = (vg ((9 : Int32)).toNatClampNeg) → (rX7_count ni li mi mv nx al nc nl on il ba (5 : Int32)) = (vg ((8 : Int32)).toNatClampNeg) → ¬ (lL_isSo_191_su1 ni li mi mv nx al nc nl ki fi se th size on il ba kT hT kn ho fr fb kb0 hb0 pt vk vh vc vq vg p1 7 (0 : Int32) (0 : Int32)) = 0 → vp_in (zRem p1 (6 : Int32)) 7) ∧ rL_isSo ni li mi mv nx al nc nl ki fi se th size on il ba kT hT kn ho fr fb kb0 hb0 pt vk vh vc vq vg p1 = 1 ∧ zRc N ni li mi mv nx al nc nl on il ba size ki fi se th (oL_isSo_kT ni li mi mv nx al nc nl ki fi se th size on il ba kT hT kn ho fr fb kb0 hb0 pt vk vh vc vq vg p1) (oL_isSo_hT ni li mi mv nx al nc nl ki fi se th size on il ba kT hT kn ho fr fb kb0 hb0 pt vk vh vc vq vg p1) kn ho kb0 hb0 gs le wi pr tp pt (oL_isSo_fr ni li mi mv nx al nc nl ki fi se th size on il ba kT hT kn ho fr fb kb0 hb0 pt vk vh vc vq vg p1) (oL_isSo_fb ni li mi mv nx al nc nl ki fi se th size on il ba kT hT kn ho fr fb kb0 hb0 pt vk vh vc vq vg p1) vk vh vc ve vq vg := by
  obtain ⟨⟨iC, iG, iN, iS, iK0, iK, iH0, iH⟩, ⟨kA, kB⟩, ⟨hA, hB⟩, hc, ⟨hE, hT⟩, hp, hg⟩ := h
  have hg' := hg
  obtain ⟨g0, g1, g2, g3, g4, g5, g6, g7, g8, g9, g10, g11, g12⟩ := hg'
  have iC' := iC
  obtain ⟨c0, c1, r2, r3, r4, r5, r6⟩ := iC'
  have hg0 : vg ((0 : Int32)).toNatClampNeg = size := by rw [zN0, g0]
  have hg1 : vg ((1 : Int32)).toNatClampNeg = il := by rw [zN1, g1]
  have hg2 : vg ((2 : Int32)).toNatClampNeg = ba := by rw [zN2, g2]
  have hg4 : vg ((4 : Int32)).toNatClampNeg = ni := by rw [zN4, g4]
  have hg7 : vg ((7 : Int32)).toNatClampNeg = nx := by rw [zN7, g7]
  have hg9 : vg ((9 : Int32)).toNatClampNeg = on := by rw [zN9, g9]
  have rm := zrI p1 6 6 rfl (by decide) h1
  have hW7 : ni = 1 → vp_in (vc nx.toNatClampNeg / (512 : Int32)) 4 := by
    intro q
    obtain ⟨n0, n1⟩ := iN q
    have hn : nx.toNatClampNeg < 12 := by
      have e := zcn n0
      omega
    rw [hc _ hn, zcd_w (r2 _ hn) (r3 _ hn) (r4 _ hn) (r5 _ hn)]
    exact r5 _ hn
  have hA7 : ni = 1 → vp_in (zRem (vc nx.toNatClampNeg / (8 : Int32)) (8 : Int32)) 6 := by
    intro q
    obtain ⟨n0, n1⟩ := iN q
    have hn : nx.toNatClampNeg < 12 := by
      have e := zcn n0
      omega
    rw [hc _ hn, zcd_a (r2 _ hn) (r3 _ hn) (r4 _ hn) (r5 _ hn)]
    exact r3 _ hn
  have h13 : ni = 1 → vp_in nx 13 := by
    intro q
    obtain ⟨n0, n1⟩ := iN q
    exact zin_b n0 (by omega)
  have hcl : ∀ KT HT : Nat → Int32, ni = 1 → rL_closes vk vh vc vg nx = rX3_canBeClosed ki fi se th size on il ba KT HT kn ho nx := by
    intro KT HT q
    have q0 : ¬ ni = 0 := by
      rw [q]
      exact z10
    rw [if_neg q0] at kB hB
    exact zCC vk vh vc vg ki fi se th KT HT kn ho size on il ba nx hg0 hg1 hg2 c1 hc r2 r3 r4 r5 (iN q).1 kB hB iK.1 iH.1
  have hw : rL_way vk vh vc vg = (if ni = 1 then (if rL_closes vk vh vc vg nx = 0 then -1 else rX4_movesTo ki fi se th size on il ba kn ho nx) else -1) := by
    by_cases q : ni = 1
    · have q0 : ¬ ni = 0 := by
        rw [q]
        exact z10
      rw [if_neg q0] at kB hB
      rw [if_pos q]
      exact zWY vk vh vc vg ki fi se th kn ho size on il ba nx _ rfl hg7 hg9 (hg4.trans q) c1 hc r2 r3 r4 r5 (iN q).1 (iN q).2 kB hB iK.1 iH.1
    · unfold rL_way
      rw [hg4, if_neg q, if_neg q]
  have hcan : ∀ KT HT : Nat → Int32, rX7_can ni li mi mv nx al nc nl ki fi se th size on il ba KT HT kn ho = (if ni = 1 then (if rL_closes vk vh vc vg nx = 0 then 0 else 1) else 0) := by
    intro KT HT
    unfold rX7_can
    by_cases q : ni = 1
    · rw [if_pos q, if_pos q, hcl KT HT q]
    · rw [if_neg q, if_neg q]
  have hway : ∀ KT HT : Nat → Int32, rX7_way ni li mi mv nx al nc nl ki fi se th size on il ba KT HT kn ho = rL_way vk vh vc vg := by
    intro KT HT
    unfold rX7_way
    rw [hw, hcan KT HT]
    by_cases q : ni = 1
    · rw [if_pos q, if_pos q]
      by_cases z : rL_closes vk vh vc vg nx = 0
      · rw [if_pos z, if_pos z, if_pos rfl]
      · rw [if_neg z, if_neg z, if_neg z10]
    · rw [if_neg q, if_neg q, if_pos rfl]
  have hwayA : ∀ (KT HT : Nat → Int32), rX7_wayAnew ni li mi mv nx al nc nl ki fi se th size on il ba KT HT kn ho fr fb = rL_way vk vh vc vg := by
    intro KT HT
    unfold rX7_wayAnew
    rw [hw, hcan KT HT]
    by_cases q : ni = 1
    · rw [if_pos q, if_pos q]
      by_cases z : rL_closes vk vh vc vg nx = 0
      · rw [if_pos z, if_pos z, if_pos rfl]
      · rw [if_neg z, if_neg z, if_neg z10]
        exact yV fr fb ki fi se th KT HT kn ho size on il ba nx c1 r3 r4 r5 r6 iK.1 iH.1 iS.1 (iN q).1 (iN q).2 (by rw [← hcl KT HT q]; exact z)
    · rw [if_neg q, if_neg q, if_pos rfl]
  have h47 : jL_isSo_47_0 ni li mi mv nx al nc nl ki fi se th size on il ba kT hT kn ho fr fb kb0 hb0 pt vk vh vc vq vg p1 = (if ni = 1 then (if rL_closes vk vh vc vg nx = 0 then 0 else 1) else 0) := by
    unfold jL_isSo_47_0
    rw [hw]
    by_cases q : ni = 1
    · rw [if_pos q, if_pos q]
      by_cases z : rL_closes vk vh vc vg nx = 0
      · rw [if_pos z, if_pos z, if_pos (by decide)]
      · rw [if_neg z, if_neg z, if_neg (zMpos ki fi se th kn ho size on il ba nx (iN q).1 (iN q).2)]
    · rw [if_neg q, if_neg q, if_pos (by decide)]
  have h80 : jL_isSo_80_0 ni li mi mv nx al nc nl ki fi se th size on il ba kT hT kn ho fr fb kb0 hb0 pt vk vh vc vq vg p1 = 1 := by
    unfold jL_isSo_80_0 rX7_state rX7_next
    rw [hg4, if_pos rfl, hg7, if_pos rfl, hcan kT hT, h47, if_pos rfl, hway, if_pos rfl]
    split
    · rfl
    · rw [hwayA, if_pos rfl]
  have l85 : ∀ (n : Nat) (i : Int32), 0 ≤ i.toInt → lL_isSo_85_is1 ni li mi mv nx al nc nl ki fi se th size on il ba kT hT kn ho fr fb kb0 hb0 pt vk vh vc vq vg p1 n 1 i = 1 := by
    intro n
    induction n with
    | zero =>
      intro i h0
      rw [lL_isSo_85_is1]
    | succ n ih =>
      intro i h0
      rw [lL_isSo_85_is1]
      by_cases hx : (24 : Int32) ≤ i
      · rw [if_pos hx]
      · rw [if_neg hx, if_neg z10]
        have hI := zInc hx
        have hi : vp_in i 24 := zin_c h0 hx (by decide)
        have en := zci hi
        have d4 := zdK (a := i) (b := 4) (n := 4) rfl h0 (by decide)
        have m4 := zrK (a := i) (b := 4) (n := 4) rfl h0 (by decide)
        have ed := zci (zd4 hi)
        have em := zci (zr4 hi)
        have e24 : 24 + i.toNatClampNeg = 24 + (4 * (i / (4 : Int32)).toNatClampNeg + (zRem i (4 : Int32)).toNatClampNeg) := by omega
        have key : zB (vk (24 + i.toNatClampNeg)) (yi ((if ni = 0 then kb0 else kn) (zRem i (4 : Int32)).toNatClampNeg) (i / (4 : Int32)).toNatClampNeg) := by
          rw [e24]
          exact kB _ _ (zin_lt (zd4 hi)) (zin_lt (zr4 hi))
        have j133 : jL_isSo_133_0 ni li mi mv nx al nc nl ki fi se th size on il ba kT hT kn ho fr fb kb0 hb0 pt vk vh vc vq vg p1 1 i = 1 := by
          unfold jL_isSo_133_0 jL_isSo_125_0 rX7_isKnown rX2_isKnower
          rw [zc24p hi]
          have ex : (if ni = 0 then rX7_isIn (kb0 (zRem i (4 : Int32)).toNatClampNeg) (i / (4 : Int32)) else rX7_isIn (kn (zRem i (4 : Int32)).toNatClampNeg) (i / (4 : Int32))) = rX7_isIn ((if ni = 0 then kb0 else kn) (zRem i (4 : Int32)).toNatClampNeg) (i / (4 : Int32)) := by
            split <;> rfl
          rw [ex]
          have y := yi_is0 (x := (if ni = 0 then kb0 else kn) (zRem i (4 : Int32)).toNatClampNeg) (zd4 hi)
          rcases key with ⟨k1, k2⟩ | ⟨k1, k2⟩
          · rw [if_pos k1, if_pos ((zis1 _ _).resolve_left (fun r => (y.mp r) k2))]
          · rw [k1, if_neg (show ¬ (0 : Int32) = 1 by decide), if_pos (y.mpr k2)]
        rw [j133]
        exact ih (i + 1) (by omega)
  have l144 : ∀ (n : Nat) (i : Int32), 0 ≤ i.toInt → lL_isSo_144_is2 ni li mi mv nx al nc nl ki fi se th size on il ba kT hT kn ho fr fb kb0 hb0 pt vk vh vc vq vg p1 n 1 i = 1 := by
    intro n
    induction n with
    | zero =>
      intro i h0
      rw [lL_isSo_144_is2]
    | succ n ih =>
      intro i h0
      rw [lL_isSo_144_is2]
      by_cases hx : (4 : Int32) ≤ i
      · rw [if_pos hx]
      · rw [if_neg hx, if_neg z10]
        have hI := zInc hx
        have hi : vp_in i 4 := zin_c h0 hx (by decide)
        have key : vh (4 + i.toNatClampNeg) = (if ni = 0 then hb0 else ho) i.toNatClampNeg + 1 := hB _ (zin_lt hi)
        have j177 : jL_isSo_177_0 ni li mi mv nx al nc nl ki fi se th size on il ba kT hT kn ho fr fb kb0 hb0 pt vk vh vc vq vg p1 1 i = 1 := by
          unfold jL_isSo_177_0 rX7_holder
          rw [zc4p hi, key, Int32.add_sub_cancel]
          by_cases q : ni = 0
          · rw [if_pos q, if_pos q, if_pos rfl]
          · rw [if_neg q, if_neg q, if_pos rfl]
        rw [j177]
        exact ih (i + 1) (by omega)
  have hsh : Op.cmpValue (FP.dcmp (rX7_share ni li mi mv nx al nc nl pt (zRem p1 (6 : Int32))) (jL_isSo_336_0 ni li mi mv nx al nc nl ki fi se th size on il ba kT hT kn ho fr fb kb0 hb0 pt vk vh vc vq vg p1)) .l = 0 := by
    obtain ⟨i', e⟩ := zsu ni li mi mv nx al nc nl ki fi se th size on il ba kT hT kn ho fr fb kb0 hb0 pt vk vh vc vq vg p1 hp (zRem p1 (6 : Int32)) 7 0 0 (by decide) (by decide) (by decide)
    have e2 : jL_isSo_336_0 ni li mi mv nx al nc nl ki fi se th size on il ba kT hT kn ho fr fb kb0 hb0 pt vk vh vc vq vg p1 = rX7_share ni li mi mv nx al nc nl pt (zRem p1 (6 : Int32)) := by
      unfold rX7_share
      rw [e]
      unfold jL_isSo_336_0 qX7_share_29_r
      rw [zN10, g10, hp _ (zin_lt rm)]
    rw [e2]
    apply zCmpD
    unfold rX7_share
    rw [e]
    unfold qX7_share_29_r
    split
    · unfold vf_n64
      decide
    · next hz => exact zfDivN _ _ _ hz
  refine ⟨?_, ?_, ?_, ?_, ?_, ?_, ?_, ?_, ?_, ?_, ?_, ?_, ?_⟩
  · intro q _
    rw [hg7]
    exact hW7 (hg4.symm.trans q)
  · intro q
    rw [hg7]
    exact (iN (hg4.symm.trans q)).1
  · intro q _
    rw [hg7]
    exact h13 (hg4.symm.trans q)
  · intro q _
    rw [hg7]
    exact h13 (hg4.symm.trans q)
  · intro q _
    rw [hg7]
    exact h13 (hg4.symm.trans q)
  · intro q _
    rw [hg7]
    exact h13 (hg4.symm.trans q)
  · intro q _ _ _ _
    rw [hg7]
    exact zi4 (hW7 (hg4.symm.trans q))
  · intro q _ _ _ _ _
    rw [hg7]
    exact zi4 (hW7 (hg4.symm.trans q))
  · intro q _ _ _ _
    rw [hg7]
    exact zi24m (hA7 (hg4.symm.trans q)) (hW7 (hg4.symm.trans q))
  · intro _ _ _ _ _ _ _
    unfold xX7_share
    rw [if_pos (zMk rm)]
  · intro _ _ _ _ _ _ _ _
    exact zin_67 rm
  · unfold rL_isSo
    rw [h80, l85 25 0 (by decide), l144 5 0 (by decide), if_neg z10]
    unfold rX7_count
    rw [if_pos (show (0 : Int32) = 0 from rfl), if_neg (show ¬ (1 : Int32) = 0 by decide), if_pos (show (1 : Int32) = 1 from rfl), if_neg (show ¬ (2 : Int32) = 0 by decide), if_neg (show ¬ (2 : Int32) = 1 by decide), if_pos (show (2 : Int32) = 2 from rfl), if_neg (show ¬ (3 : Int32) = 0 by decide), if_neg (show ¬ (3 : Int32) = 1 by decide), if_neg (show ¬ (3 : Int32) = 2 by decide), if_pos (show (3 : Int32) = 3 from rfl), if_neg (show ¬ (4 : Int32) = 0 by decide), if_neg (show ¬ (4 : Int32) = 1 by decide), if_neg (show ¬ (4 : Int32) = 2 by decide), if_neg (show ¬ (4 : Int32) = 3 by decide), if_pos (show (4 : Int32) = 4 from rfl), if_neg (show ¬ (5 : Int32) = 0 by decide), if_neg (show ¬ (5 : Int32) = 1 by decide), if_neg (show ¬ (5 : Int32) = 2 by decide), if_neg (show ¬ (5 : Int32) = 3 by decide), if_neg (show ¬ (5 : Int32) = 4 by decide)]
    rw [zN6, g6, zN10, g10, zN11, g11, zN12, g12, zN9, g9, zN8, g8, if_pos rfl, if_pos rfl, if_pos rfl, if_pos rfl, if_pos rfl, if_pos rfl, if_pos hsh]
  · exact ⟨⟨iC, iG, iN, iS, iK0, iK, iH0, iH⟩, ⟨kA, kB⟩, ⟨hA, hB⟩, hc, ⟨hE, hT⟩, hp, hg⟩
/-! the law: its numbers out of the script, its loop -/
def rL_part (L : Nat) (xs : Nat → Int32) (k n : Int32) : Int32 := zRem ((if Int32.ofNat L ≤ k then (((1013 : Int32) * k) + (((883 : Int32) * k) * k)) else xs k.toNatClampNeg) &&& (2147483647 : Int32)) n
theorem kL_part_c : Cond.constant RL 7 (2147483647) ∈ wsL_part := by decide +kernel
theorem c_L_part (l : Launch) (b L : Nat) (xs : Nat → Int32) (k n : Int32) (hk : 0 ≤ k.toInt) (hL : L ≤ 260) (hn : ¬ n = 0) : Met l yL_part wsL_part ({ frames := 0, cells := 0, slots := 0, locals := 0 }) (va_Pc [.ref b, .int k, .int n] (fun U => va_X b L xs U U.heap ∧ b < U.heap.size)) (vp_Si (fun r => r = rL_part L xs k n)) 0 0 (fun _ => False) := by
  refine Met.ofW (cc := cL_part) (maxL := 4) (ret := (some .int)) (by decide) rfl ?_
  intro p e s m args below meth c s₁ B hml hv
  obtain ⟨rfl, hX, hbl⟩ := hv
  have hx := B.exec
  have hb := B.bytes
  have hr := B.returns
  have hts := atoms_spec (ws := wsL_part) B.pre
  have hown : s.vm.findClass RL = some m.cls := findClass_of_methodNamed B.named
  have hS : va_S (fun q : Nat => s.heap.size ≤ q) s.heap s.heap [] := va_S.rf
  have hbA : ¬ (fun q : Nat => s.heap.size ≤ q) b := Nat.not_le.mpr hbl
  have hl := lv_entry ([.ref b, .int k, .int n]) (n := 4) (Nat.le_of_ble_eq_true rfl)
  rw [lg_entry_eq]
  generalize (lg_sl ([.ref b, .int k, .int n]) ++ List.replicate (4 - (lg_sl ([.ref b, .int k, .int n])).length) Slot.unset).toArray = ls at hl ⊢
  have hl : lv_has ls 4 [(0, .ref b), (1, .int k), (2, .int n)] := hl
  refine lv_iload_n hx hb dL_part_0 rfl (lv_at hl 1 rfl) ?_
  refine lv_aload_n hx hb dL_part_1 rfl (lv_at hl 0 rfl) ?_
  refine va_slen hx hb hX hbl hbA hS dL_part_2 ?_
  refine lv_icmp_ge (tgt := 12) hx hb dL_part_3 (by decide) (fun c_1 => ?_) (fun c_1 => ?_)
  · refine lv_sipush (v := 1013) hx hb dL_part_12 (by decide) ?_
    refine lv_iload_n hx hb dL_part_15 rfl (lv_at hl 1 rfl) ?_
    refine lv_imul hx hb dL_part_16 ?_
    refine lv_sipush (v := 883) hx hb dL_part_17 (by decide) ?_
    refine lv_iload_n hx hb dL_part_20 rfl (lv_at hl 1 rfl) ?_
    refine lv_imul hx hb dL_part_21 ?_
    refine lv_iload_n hx hb dL_part_22 rfl (lv_at hl 1 rfl) ?_
    refine lv_imul hx hb dL_part_23 ?_
    refine lv_iadd hx hb dL_part_24 ?_
    refine lv_istore_n (lv' := [(3, .int ((((1013 : Int32) * k) + (((883 : Int32) * k) * k)))), (0, .ref b), (1, .int k), (2, .int n)]) hx hb dL_part_25 rfl hl (by decide) rfl (fun ls hl => ?_)
    refine lv_iload_n hx hb dL_part_26 rfl (lv_at hl 0 rfl) ?_
    refine lv_ldc (v := 2147483647) hx hb hown (hts _ kL_part_c) dL_part_27 ?_
    refine lv_iand hx hb dL_part_29 ?_
    refine lv_iload_n hx hb dL_part_30 rfl (lv_at hl 3 rfl) ?_
    refine zvRem hx hb dL_part_31 hn ?_
    exact W.iret (v := _) hx hb hr (fun t ht hW => ⟨_, rfl, (by unfold rL_part; rw [if_pos c_1]), ht⟩) (fun q hq => absurd hq List.not_mem_nil) dL_part_32
  · refine lv_aload_n hx hb dL_part_6 rfl (lv_at hl 0 rfl) ?_
    refine lv_iload_n hx hb dL_part_7 rfl (lv_at hl 1 rfl) ?_
    refine va_sld hx hb hX hbl hbA hS (i := k) (zin_c hk c_1 (by rw [Int32.toInt_ofNat_of_lt (by omega)]; exact Int.le_refl _)) dL_part_8 ?_
    refine lv_goto (tgt := 25) hx hb dL_part_9 (by decide) ?_
    refine lv_istore_n (lv' := [(3, .int (xs k.toNatClampNeg)), (0, .ref b), (1, .int k), (2, .int n)]) hx hb dL_part_25 rfl hl (by decide) rfl (fun ls hl => ?_)
    refine lv_iload_n hx hb dL_part_26 rfl (lv_at hl 0 rfl) ?_
    refine lv_ldc (v := 2147483647) hx hb hown (hts _ kL_part_c) dL_part_27 ?_
    refine lv_iand hx hb dL_part_29 ?_
    refine lv_iload_n hx hb dL_part_30 rfl (lv_at hl 3 rfl) ?_
    refine zvRem hx hb dL_part_31 hn ?_
    exact W.iret (v := _) hx hb hr (fun t ht hW => ⟨_, rfl, (by unfold rL_part; rw [if_neg c_1]), ht⟩) (fun q hq => absurd hq List.not_mem_nil) dL_part_32
theorem zpX {s : State} {H : Heap} {A : Nat → Prop} {locs : List Loc} {b L : Nat} {xs : Nat → Int32} {As : List Value} (hX : va_X b L xs s s.heap) (hbl : b < s.heap.size) (hbA : ¬ A b) (hS : va_S A s.heap H locs) : PreS s H (va_Pc As (fun U => va_X b L xs U U.heap ∧ b < U.heap.size)) As :=
  ⟨fun a U g mk h => ⟨h.1, va_X.moved (u := U) (U := U.calling g mk a) (Vm.Alike.refl U.vm) h.2.1, h.2.2⟩, fun {U} hU hW => ⟨rfl, by
    rw [hU]
    exact va_X.moved hW.alike (hX.kept (hS.2.1 b hbl hbA)), by
    rw [hU]
    exact Nat.lt_of_lt_of_le hbl hS.1⟩⟩
theorem zpt (L : Nat) (xs : Nat → Int32) (k n : Int32) (c : Nat) (hn : n.toInt = c) (hc : 0 < c) : 0 ≤ (rL_part L xs k n).toInt ∧ (rL_part L xs k n).toInt < c := by
  unfold rL_part
  generalize (if Int32.ofNat L ≤ k then (((1013 : Int32) * k) + (((883 : Int32) * k) * k)) else xs k.toNatClampNeg) = v
  have h0 : 0 ≤ (v &&& (2147483647 : Int32)).toInt := (vp_in_iff.mp (pk_andIn v (m := 2147483647) 2147483647 rfl (by decide))).1
  have e := zrK (a := v &&& (2147483647 : Int32)) (n := (c : Int)) hn h0 (by omega)
  have h1 := Int.emod_nonneg (v &&& (2147483647 : Int32)).toInt (show (c : Int) ≠ 0 by omega)
  have h2 := Int.emod_lt_of_pos (v &&& (2147483647 : Int32)).toInt (show (0 : Int) < c by omega)
  omega
theorem zR_of (N : Nat) (ni : Int32) (li : Int32) (mi : Int32) (mv : Int32) (nx : Int32) (al : Int32) (nc : Int32) (nl : Int32) (on : Int32) (il : Int32) (ba : Int32) (size : Int32) (ki : Nat → Int32) (fi : Nat → Int32) (se : Nat → Int32) (th : Nat → Int32) (kT : Nat → Int32) (hT : Nat → Int32) (kn : Nat → Int32) (ho : Nat → Int32) (kb0 : Nat → Int32) (hb0 : Nat → Int32) (gs : Int32) (le : Nat → Int32) (wi : Nat → Int32) (pr : Nat → Int32) (tp : Nat → Int32) (pt : Nat → Int32) (fr : Nat → Int64) (fb : Nat → Int64) (vk vh vc ve vq vg : Nat → Int32) (h : zRc N ni li mi mv nx al nc nl on il ba size ki fi se th kT hT kn ho kb0 hb0 gs le wi pr tp pt fr fb vk vh vc ve vq vg) : zRc N (ZH.of ni li mi mv nx al nc nl on il ba size ki fi se th kT hT kn ho kb0 hb0 gs le wi pr tp pt fr fb).ni (ZH.of ni li mi mv nx al nc nl on il ba size ki fi se th kT hT kn ho kb0 hb0 gs le wi pr tp pt fr fb).li (ZH.of ni li mi mv nx al nc nl on il ba size ki fi se th kT hT kn ho kb0 hb0 gs le wi pr tp pt fr fb).mi (ZH.of ni li mi mv nx al nc nl on il ba size ki fi se th kT hT kn ho kb0 hb0 gs le wi pr tp pt fr fb).mv (ZH.of ni li mi mv nx al nc nl on il ba size ki fi se th kT hT kn ho kb0 hb0 gs le wi pr tp pt fr fb).nx (ZH.of ni li mi mv nx al nc nl on il ba size ki fi se th kT hT kn ho kb0 hb0 gs le wi pr tp pt fr fb).al (ZH.of ni li mi mv nx al nc nl on il ba size ki fi se th kT hT kn ho kb0 hb0 gs le wi pr tp pt fr fb).nc (ZH.of ni li mi mv nx al nc nl on il ba size ki fi se th kT hT kn ho kb0 hb0 gs le wi pr tp pt fr fb).nl (ZH.of ni li mi mv nx al nc nl on il ba size ki fi se th kT hT kn ho kb0 hb0 gs le wi pr tp pt fr fb).on (ZH.of ni li mi mv nx al nc nl on il ba size ki fi se th kT hT kn ho kb0 hb0 gs le wi pr tp pt fr fb).il (ZH.of ni li mi mv nx al nc nl on il ba size ki fi se th kT hT kn ho kb0 hb0 gs le wi pr tp pt fr fb).ba (ZH.of ni li mi mv nx al nc nl on il ba size ki fi se th kT hT kn ho kb0 hb0 gs le wi pr tp pt fr fb).size (ZH.of ni li mi mv nx al nc nl on il ba size ki fi se th kT hT kn ho kb0 hb0 gs le wi pr tp pt fr fb).ki (ZH.of ni li mi mv nx al nc nl on il ba size ki fi se th kT hT kn ho kb0 hb0 gs le wi pr tp pt fr fb).fi (ZH.of ni li mi mv nx al nc nl on il ba size ki fi se th kT hT kn ho kb0 hb0 gs le wi pr tp pt fr fb).se (ZH.of ni li mi mv nx al nc nl on il ba size ki fi se th kT hT kn ho kb0 hb0 gs le wi pr tp pt fr fb).th (ZH.of ni li mi mv nx al nc nl on il ba size ki fi se th kT hT kn ho kb0 hb0 gs le wi pr tp pt fr fb).kT (ZH.of ni li mi mv nx al nc nl on il ba size ki fi se th kT hT kn ho kb0 hb0 gs le wi pr tp pt fr fb).hT (ZH.of ni li mi mv nx al nc nl on il ba size ki fi se th kT hT kn ho kb0 hb0 gs le wi pr tp pt fr fb).kn (ZH.of ni li mi mv nx al nc nl on il ba size ki fi se th kT hT kn ho kb0 hb0 gs le wi pr tp pt fr fb).ho (ZH.of ni li mi mv nx al nc nl on il ba size ki fi se th kT hT kn ho kb0 hb0 gs le wi pr tp pt fr fb).kb0 (ZH.of ni li mi mv nx al nc nl on il ba size ki fi se th kT hT kn ho kb0 hb0 gs le wi pr tp pt fr fb).hb0 (ZH.of ni li mi mv nx al nc nl on il ba size ki fi se th kT hT kn ho kb0 hb0 gs le wi pr tp pt fr fb).gs (ZH.of ni li mi mv nx al nc nl on il ba size ki fi se th kT hT kn ho kb0 hb0 gs le wi pr tp pt fr fb).le (ZH.of ni li mi mv nx al nc nl on il ba size ki fi se th kT hT kn ho kb0 hb0 gs le wi pr tp pt fr fb).wi (ZH.of ni li mi mv nx al nc nl on il ba size ki fi se th kT hT kn ho kb0 hb0 gs le wi pr tp pt fr fb).pr (ZH.of ni li mi mv nx al nc nl on il ba size ki fi se th kT hT kn ho kb0 hb0 gs le wi pr tp pt fr fb).tp (ZH.of ni li mi mv nx al nc nl on il ba size ki fi se th kT hT kn ho kb0 hb0 gs le wi pr tp pt fr fb).pt (ZH.of ni li mi mv nx al nc nl on il ba size ki fi se th kT hT kn ho kb0 hb0 gs le wi pr tp pt fr fb).fr (ZH.of ni li mi mv nx al nc nl on il ba size ki fi se th kT hT kn ho kb0 hb0 gs le wi pr tp pt fr fb).fb vk vh vc ve vq vg := h
theorem zR_le {N M : Nat} {ni : Int32} {li : Int32} {mi : Int32} {mv : Int32} {nx : Int32} {al : Int32} {nc : Int32} {nl : Int32} {on : Int32} {il : Int32} {ba : Int32} {size : Int32} {ki : Nat → Int32} {fi : Nat → Int32} {se : Nat → Int32} {th : Nat → Int32} {kT : Nat → Int32} {hT : Nat → Int32} {kn : Nat → Int32} {ho : Nat → Int32} {kb0 : Nat → Int32} {hb0 : Nat → Int32} {gs : Int32} {le : Nat → Int32} {wi : Nat → Int32} {pr : Nat → Int32} {tp : Nat → Int32} {pt : Nat → Int32} {fr : Nat → Int64} {fb : Nat → Int64} {vk vh vc ve vq vg : Nat → Int32} (h : zRc N ni li mi mv nx al nc nl on il ba size ki fi se th kT hT kn ho kb0 hb0 gs le wi pr tp pt fr fb vk vh vc ve vq vg) (hM : N ≤ M) : zRc M ni li mi mv nx al nc nl on il ba size ki fi se th kT hT kn ho kb0 hb0 gs le wi pr tp pt fr fb vk vh vc ve vq vg := by
  obtain ⟨⟨iC, iG, iN, iS, iK0, iK, iH0, iH⟩, ⟨kA, kB⟩, ⟨hA, hB⟩, hc, ⟨hE, hT⟩, hp, hg⟩ := h
  exact ⟨⟨iC, iG, iN, iS, iK0, iK, iH0, iH⟩, ⟨kA, kB⟩, ⟨hA, hB⟩, hc, ⟨hE, zJt_le hT hM⟩, hp, hg⟩
theorem zg_hsz0 {N : Nat} {ni : Int32} {li : Int32} {mi : Int32} {mv : Int32} {nx : Int32} {al : Int32} {nc : Int32} {nl : Int32} {on : Int32} {il : Int32} {ba : Int32} {size : Int32} {ki : Nat → Int32} {fi : Nat → Int32} {se : Nat → Int32} {th : Nat → Int32} {kT : Nat → Int32} {hT : Nat → Int32} {kn : Nat → Int32} {ho : Nat → Int32} {kb0 : Nat → Int32} {hb0 : Nat → Int32} {gs : Int32} {le : Nat → Int32} {wi : Nat → Int32} {pr : Nat → Int32} {tp : Nat → Int32} {pt : Nat → Int32} {fr : Nat → Int64} {fb : Nat → Int64} {vk vh vc ve vq vg : Nat → Int32} (h : zRc N ni li mi mv nx al nc nl on il ba size ki fi se th kT hT kn ho kb0 hb0 gs le wi pr tp pt fr fb vk vh vc ve vq vg) : 0 ≤ size.toInt := h.1.1.1
theorem zg_hsz {N : Nat} {ni : Int32} {li : Int32} {mi : Int32} {mv : Int32} {nx : Int32} {al : Int32} {nc : Int32} {nl : Int32} {on : Int32} {il : Int32} {ba : Int32} {size : Int32} {ki : Nat → Int32} {fi : Nat → Int32} {se : Nat → Int32} {th : Nat → Int32} {kT : Nat → Int32} {hT : Nat → Int32} {kn : Nat → Int32} {ho : Nat → Int32} {kb0 : Nat → Int32} {hb0 : Nat → Int32} {gs : Int32} {le : Nat → Int32} {wi : Nat → Int32} {pr : Nat → Int32} {tp : Nat → Int32} {pt : Nat → Int32} {fr : Nat → Int64} {fb : Nat → Int64} {vk vh vc ve vq vg : Nat → Int32} (h : zRc N ni li mi mv nx al nc nl on il ba size ki fi se th kT hT kn ho kb0 hb0 gs le wi pr tp pt fr fb vk vh vc ve vq vg) : size.toInt ≤ 12 := h.1.1.2.1
theorem zg_hTH {N : Nat} {ni : Int32} {li : Int32} {mi : Int32} {mv : Int32} {nx : Int32} {al : Int32} {nc : Int32} {nl : Int32} {on : Int32} {il : Int32} {ba : Int32} {size : Int32} {ki : Nat → Int32} {fi : Nat → Int32} {se : Nat → Int32} {th : Nat → Int32} {kT : Nat → Int32} {hT : Nat → Int32} {kn : Nat → Int32} {ho : Nat → Int32} {kb0 : Nat → Int32} {hb0 : Nat → Int32} {gs : Int32} {le : Nat → Int32} {wi : Nat → Int32} {pr : Nat → Int32} {tp : Nat → Int32} {pt : Nat → Int32} {fr : Nat → Int64} {fb : Nat → Int64} {vk vh vc ve vq vg : Nat → Int32} (h : zRc N ni li mi mv nx al nc nl on il ba size ki fi se th kT hT kn ho kb0 hb0 gs le wi pr tp pt fr fb vk vh vc ve vq vg) : ∀ j : Nat, j < 12 → vp_in (th j) 4 := h.1.1.2.2.2.2.2.1
theorem zg_hFI {N : Nat} {ni : Int32} {li : Int32} {mi : Int32} {mv : Int32} {nx : Int32} {al : Int32} {nc : Int32} {nl : Int32} {on : Int32} {il : Int32} {ba : Int32} {size : Int32} {ki : Nat → Int32} {fi : Nat → Int32} {se : Nat → Int32} {th : Nat → Int32} {kT : Nat → Int32} {hT : Nat → Int32} {kn : Nat → Int32} {ho : Nat → Int32} {kb0 : Nat → Int32} {hb0 : Nat → Int32} {gs : Int32} {le : Nat → Int32} {wi : Nat → Int32} {pr : Nat → Int32} {tp : Nat → Int32} {pt : Nat → Int32} {fr : Nat → Int64} {fb : Nat → Int64} {vk vh vc ve vq vg : Nat → Int32} (h : zRc N ni li mi mv nx al nc nl on il ba size ki fi se th kT hT kn ho kb0 hb0 gs le wi pr tp pt fr fb vk vh vc ve vq vg) : ∀ j : Nat, j < 12 → vp_in (fi j) 6 := h.1.1.2.2.2.1
theorem zg_hSE {N : Nat} {ni : Int32} {li : Int32} {mi : Int32} {mv : Int32} {nx : Int32} {al : Int32} {nc : Int32} {nl : Int32} {on : Int32} {il : Int32} {ba : Int32} {size : Int32} {ki : Nat → Int32} {fi : Nat → Int32} {se : Nat → Int32} {th : Nat → Int32} {kT : Nat → Int32} {hT : Nat → Int32} {kn : Nat → Int32} {ho : Nat → Int32} {kb0 : Nat → Int32} {hb0 : Nat → Int32} {gs : Int32} {le : Nat → Int32} {wi : Nat → Int32} {pr : Nat → Int32} {tp : Nat → Int32} {pt : Nat → Int32} {fr : Nat → Int64} {fb : Nat → Int64} {vk vh vc ve vq vg : Nat → Int32} (h : zRc N ni li mi mv nx al nc nl on il ba size ki fi se th kT hT kn ho kb0 hb0 gs le wi pr tp pt fr fb vk vh vc ve vq vg) : ∀ j : Nat, j < 12 → vp_in (se j) 6 := h.1.1.2.2.2.2.1
theorem zg_hgs0 {N : Nat} {ni : Int32} {li : Int32} {mi : Int32} {mv : Int32} {nx : Int32} {al : Int32} {nc : Int32} {nl : Int32} {on : Int32} {il : Int32} {ba : Int32} {size : Int32} {ki : Nat → Int32} {fi : Nat → Int32} {se : Nat → Int32} {th : Nat → Int32} {kT : Nat → Int32} {hT : Nat → Int32} {kn : Nat → Int32} {ho : Nat → Int32} {kb0 : Nat → Int32} {hb0 : Nat → Int32} {gs : Int32} {le : Nat → Int32} {wi : Nat → Int32} {pr : Nat → Int32} {tp : Nat → Int32} {pt : Nat → Int32} {fr : Nat → Int64} {fb : Nat → Int64} {vk vh vc ve vq vg : Nat → Int32} (h : zRc N ni li mi mv nx al nc nl on il ba size ki fi se th kT hT kn ho kb0 hb0 gs le wi pr tp pt fr fb vk vh vc ve vq vg) : 0 ≤ gs.toInt := h.1.2.1.1
theorem zg_hgs {N : Nat} {ni : Int32} {li : Int32} {mi : Int32} {mv : Int32} {nx : Int32} {al : Int32} {nc : Int32} {nl : Int32} {on : Int32} {il : Int32} {ba : Int32} {size : Int32} {ki : Nat → Int32} {fi : Nat → Int32} {se : Nat → Int32} {th : Nat → Int32} {kT : Nat → Int32} {hT : Nat → Int32} {kn : Nat → Int32} {ho : Nat → Int32} {kb0 : Nat → Int32} {hb0 : Nat → Int32} {gs : Int32} {le : Nat → Int32} {wi : Nat → Int32} {pr : Nat → Int32} {tp : Nat → Int32} {pt : Nat → Int32} {fr : Nat → Int64} {fb : Nat → Int64} {vk vh vc ve vq vg : Nat → Int32} (h : zRc N ni li mi mv nx al nc nl on il ba size ki fi se th kT hT kn ho kb0 hb0 gs le wi pr tp pt fr fb vk vh vc ve vq vg) : gs.toInt ≤ 6 := h.1.2.1.2.1
theorem zg_hPR {N : Nat} {ni : Int32} {li : Int32} {mi : Int32} {mv : Int32} {nx : Int32} {al : Int32} {nc : Int32} {nl : Int32} {on : Int32} {il : Int32} {ba : Int32} {size : Int32} {ki : Nat → Int32} {fi : Nat → Int32} {se : Nat → Int32} {th : Nat → Int32} {kT : Nat → Int32} {hT : Nat → Int32} {kn : Nat → Int32} {ho : Nat → Int32} {kb0 : Nat → Int32} {hb0 : Nat → Int32} {gs : Int32} {le : Nat → Int32} {wi : Nat → Int32} {pr : Nat → Int32} {tp : Nat → Int32} {pt : Nat → Int32} {fr : Nat → Int64} {fb : Nat → Int64} {vk vh vc ve vq vg : Nat → Int32} (h : zRc N ni li mi mv nx al nc nl on il ba size ki fi se th kT hT kn ho kb0 hb0 gs le wi pr tp pt fr fb vk vh vc ve vq vg) : ∀ j : Nat, j < 6 → pr j = -1 ∨ vp_in (pr j) 4 := h.1.2.1.2.2.2
theorem zg_hC {N : Nat} {ni : Int32} {li : Int32} {mi : Int32} {mv : Int32} {nx : Int32} {al : Int32} {nc : Int32} {nl : Int32} {on : Int32} {il : Int32} {ba : Int32} {size : Int32} {ki : Nat → Int32} {fi : Nat → Int32} {se : Nat → Int32} {th : Nat → Int32} {kT : Nat → Int32} {hT : Nat → Int32} {kn : Nat → Int32} {ho : Nat → Int32} {kb0 : Nat → Int32} {hb0 : Nat → Int32} {gs : Int32} {le : Nat → Int32} {wi : Nat → Int32} {pr : Nat → Int32} {tp : Nat → Int32} {pt : Nat → Int32} {fr : Nat → Int64} {fb : Nat → Int64} {vk vh vc ve vq vg : Nat → Int32} (h : zRc N ni li mi mv nx al nc nl on il ba size ki fi se th kT hT kn ho kb0 hb0 gs le wi pr tp pt fr fb vk vh vc ve vq vg) : ∀ j : Nat, j < 12 → zCg (vc j) := by
  obtain ⟨⟨iC, iG, iN, iS, iK0, iK, iH0, iH⟩, ⟨kA, kB⟩, ⟨hA, hB⟩, hc, ⟨hE, hT⟩, hp, hg⟩ := h
  intro j hj
  obtain ⟨c0, c1, r2, r3, r4, r5, r6⟩ := iC
  rw [hc j hj]
  exact zcd_g (r2 j hj) (r3 j hj) (r4 j hj) (r5 j hj)
theorem zg_hg0 {N : Nat} {ni : Int32} {li : Int32} {mi : Int32} {mv : Int32} {nx : Int32} {al : Int32} {nc : Int32} {nl : Int32} {on : Int32} {il : Int32} {ba : Int32} {size : Int32} {ki : Nat → Int32} {fi : Nat → Int32} {se : Nat → Int32} {th : Nat → Int32} {kT : Nat → Int32} {hT : Nat → Int32} {kn : Nat → Int32} {ho : Nat → Int32} {kb0 : Nat → Int32} {hb0 : Nat → Int32} {gs : Int32} {le : Nat → Int32} {wi : Nat → Int32} {pr : Nat → Int32} {tp : Nat → Int32} {pt : Nat → Int32} {fr : Nat → Int64} {fb : Nat → Int64} {vk vh vc ve vq vg : Nat → Int32} (h : zRc N ni li mi mv nx al nc nl on il ba size ki fi se th kT hT kn ho kb0 hb0 gs le wi pr tp pt fr fb vk vh vc ve vq vg) : (vg ((0 : Int32)).toNatClampNeg).toInt ≤ 12 := by
  obtain ⟨⟨iC, iG, iN, iS, iK0, iK, iH0, iH⟩, ⟨kA, kB⟩, ⟨hA, hB⟩, hc, ⟨hE, hT⟩, hp, hg⟩ := h
  rw [zN0, hg.1]
  exact iC.2.1
/-! the law's entry: what the claim gives of the start -/
set_option maxRecDepth 40000 in
theorem zen_K {s : State} {args : Array Value} (hts : ∀ w ∈ wsL_law, w.before args s = true) : ∃ (dC : Nat → ClassId) (dI : Nat → Nat → Nat) (cI cJ : ClassId), va_K (dC, dI) vwCl [(cI, .int), (cJ, .long)] s := by
  obtain ⟨c0, i0, h0⟩ := u_known (C := RX0) (T := TX0) (N := 5) (n := 5) hts (by decide +kernel) (hts _ (by decide +kernel))
  obtain ⟨c1, i1, h1⟩ := u_known (C := RX1) (T := TX1) (N := 5) (n := 5) hts (by decide +kernel) (hts _ (by decide +kernel))
  obtain ⟨c2, i2, h2⟩ := u_known (C := RX2) (T := TX2) (N := 2) (n := 2) hts (by decide +kernel) (hts _ (by decide +kernel))
  obtain ⟨c3, i3, h3⟩ := u_known (C := RX3) (T := TX3) (N := 3) (n := 3) hts (by decide +kernel) (hts _ (by decide +kernel))
  obtain ⟨c4, i4, h4⟩ := u_known (C := RX4) (T := TX4) (N := 2) (n := 2) hts (by decide +kernel) (hts _ (by decide +kernel))
  obtain ⟨c5, i5, h5⟩ := u_known (C := RX5) (T := TX5) (N := 4) (n := 4) hts (by decide +kernel) (hts _ (by decide +kernel))
  obtain ⟨c6, i6, h6⟩ := u_known (C := RX6) (T := TX6) (N := 4) (n := 4) hts (by decide +kernel) (hts _ (by decide +kernel))
  obtain ⟨c7, i7, h7⟩ := u_known (C := RX7) (T := TX7) (N := 16) (n := 16) hts (by decide +kernel) (hts _ (by decide +kernel))
  obtain ⟨cI, kI, oI, hI1, hI2, hI3⟩ := Cond.arrayClass_spec (hts (.arrayClass .int) (by decide +kernel))
  obtain ⟨cJ, kJ, oJ, hJ1, hJ2, hJ3⟩ := Cond.arrayClass_spec (hts (.arrayClass .long) (by decide +kernel))
  refine ⟨fun k => match k with | 0 => c0 | 1 => c1 | 2 => c2 | 3 => c3 | 4 => c4 | 5 => c5 | 6 => c6 | _ => c7, fun k => match k with | 0 => i0 | 1 => i1 | 2 => i2 | 3 => i3 | 4 => i4 | 5 => i5 | 6 => i6 | _ => i7, cI, cJ, fun c q hq => ?_, fun k q hq => ?_⟩
  · match c with
    | 0 => cases hq; exact h0
    | 1 => cases hq; exact h1
    | 2 => cases hq; exact h2
    | 3 => cases hq; exact h3
    | 4 => cases hq; exact h4
    | 5 => cases hq; exact h5
    | 6 => cases hq; exact h6
    | 7 => cases hq; exact h7
    | n + 8 => exact absurd hq (by simp)
  · match k with
    | 0 => cases hq; exact ⟨fun n z => ⟨fun k h => (by cases h), kI, hI2, oI, hI3⟩, hI1⟩
    | 1 => cases hq; exact ⟨fun n z => ⟨fun k h => (by cases h), kJ, hJ2, oJ, hJ3⟩, hJ1⟩
    | n + 2 => exact absurd hq (by simp)
theorem zen_eq {args : Array Value} {s : State} {a b : Term} {v : Value} (h : (Cond.eq a b).before args s = true) (hb : b.eval args s none [] s = some v) : a.eval args s none [] s = some v := by
  simp only [Cond.before, Cond.holds, Cond.value] at h
  rw [hb] at h
  cases ha : a.eval args s none [] s with
  | none => rw [ha] at h; simp at h
  | some x => rw [ha] at h; cases x <;> cases v <;> simp_all
set_option maxRecDepth 100000 in
theorem zen_1 : ∀ q ∈ zNw, q ∈ lw_tbl ∧ q.onTables = true := by decide +kernel
set_option maxRecDepth 100000 in
theorem zen_2 : ∀ q ∈ zSt, Cond.stringRef RX7 q.1 q.2 ∈ lw_tbl := by decide +kernel
set_option maxRecDepth 100000 in
theorem zen_3 : ∀ q ∈ zNc, Cond.not (.castable q.1 q.2) ∈ flatC (Jvm.Cond.and given_1 narrow_1) := by decide +kernel
set_option maxRecDepth 100000 in
theorem zen_4 : ∀ k ∈ [1, 2, 3], Cond.castable (zXn k) (zXn k) ∈ lw_tbl := by decide +kernel
set_option maxRecDepth 100000 in
theorem zen_5 : ∀ q ∈ zDe, Cond.declares q ∈ lw_tbl := by decide +kernel
theorem zen_E {s : State} {b : Nat} (hts : ∀ w ∈ lw_tbl, w.before #[Value.ref b] s = true) (hgv : (Jvm.Cond.and given_1 narrow_1).before #[Value.ref b] s = true) (hcur : ∃ cur, s.vm.findClass RX7 = some cur) : zE s := by
  obtain ⟨cur, hcur⟩ := hcur
  have hq := flat_of_before _ hgv
  refine ⟨fun q h => va_Nw.of (zen_1 q h).2 (hts _ (zen_1 q h).1), fun q h => ?_, fun q h => va_Nc.of (hq _ (zen_3 q h)), fun k => ?_, fun q h => va_Nw.of rfl (hts _ (zen_5 q h))⟩
  · obtain ⟨_, _, _, a, _, _, _, _, _, ha⟩ := Cond.stringRef_spec hcur (hts _ (zen_2 q h))
    exact ⟨a, vk_R.of (hts _ (zen_2 q h)) ha⟩
  · match k with
    | 0 => exact va_Nw.of rfl (hts _ (zen_4 3 (by decide)))
    | 1 => exact va_Nw.of rfl (hts _ (zen_4 1 (by decide)))
    | 2 => exact va_Nw.of rfl (hts _ (zen_4 2 (by decide)))
    | n + 3 => exact va_Nw.of rfl (hts _ (zen_4 3 (by decide)))
set_option maxRecDepth 100000 in
theorem zen_G {s : State} {b : Nat} {A : Nat → Prop} (hts : ∀ w ∈ lw_tbl, w.before #[Value.ref b] s = true) (hgv : (Jvm.Cond.and given_1 narrow_1).before #[Value.ref b] s = true) (hcur : ∃ cur, s.vm.findClass RX7 = some cur) (hA : ∀ a : Nat, a < s.heap.size → ¬ A a) : zG A s := by
  have hq := flat_of_before _ hgv
  refine ⟨zen_E hts hgv hcur, ⟨vx_Zqof (hts _ (by decide +kernel)) (hts _ (by decide +kernel)) (hq _ (by decide +kernel)) hA, vx_Zqof (hts _ (by decide +kernel)) (hts _ (by decide +kernel)) (hq _ (by decide +kernel)) hA⟩, ?_⟩
  have hl : (Term.length (.static RX6 "KNOWN_TO" "[J")).eval #[Value.ref b] s none [] s = some (.int (Int32.ofNat 6)) := zen_eq (hq (.eq (.length (.static RX6 "KNOWN_TO" "[J")) (.int 6)) (by decide +kernel)) rfl
  have he : ∀ j : Nat, j < 6 → (Term.elem (.static RX6 "KNOWN_TO" "[J") (.int (Int32.ofNat j))).eval #[Value.ref b] s none [] s = some (.long (zKT j)) := by
    intro j hj
    match j with
    | 0 => exact zen_eq (hq (.eq (.elem (.static RX6 "KNOWN_TO" "[J") (.int 0)) (.long (zKT 0))) (by decide +kernel)) rfl
    | 1 => exact zen_eq (hq (.eq (.elem (.static RX6 "KNOWN_TO" "[J") (.int 1)) (.long (zKT 1))) (by decide +kernel)) rfl
    | 2 => exact zen_eq (hq (.eq (.elem (.static RX6 "KNOWN_TO" "[J") (.int 2)) (.long (zKT 2))) (by decide +kernel)) rfl
    | 3 => exact zen_eq (hq (.eq (.elem (.static RX6 "KNOWN_TO" "[J") (.int 3)) (.long (zKT 3))) (by decide +kernel)) rfl
    | 4 => exact zen_eq (hq (.eq (.elem (.static RX6 "KNOWN_TO" "[J") (.int 4)) (.long (zKT 4))) (by decide +kernel)) rfl
    | 5 => exact zen_eq (hq (.eq (.elem (.static RX6 "KNOWN_TO" "[J") (.int 5)) (.long (zKT 5))) (by decide +kernel)) rfl
    | n + 6 => omega
  obtain ⟨t, ht, hT⟩ := va_Tof (tm := .static RX6 "KNOWN_TO" "[J") (ty := .long) (N := 6) (f := fun j => .long (zKT j)) (by decide) (hq _ (by decide +kernel)) hl he hA
  exact ⟨t, va_Zof (hts _ (by decide +kernel)) (hts _ (by decide +kernel)) ht hA, hT⟩
