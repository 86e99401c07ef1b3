theorem zin_2449' {x : Int32} (h : vp_in x 24) : vp_in x 49 := zin_le h (by decide)
theorem zi24' {i : Int32} (h : vp_in i 24) : vp_in ((24 : Int32) + i) 49 := zi24 h
/-! what is told: the law and the class -/
set_option maxHeartbeats 2000000 in
theorem zT_0 {N : Nat} {ni li mi mv nx al nc nl on il ba size : Int32} {ki fi se th kT hT kn ho kb0 hb0 : Nat → Int32} {gs : Int32} {le wi pr tp pt : Nat → Int32} {fr fb : Nat → Int64} {vk vh vc ve vq vg : Nat → Int32} (h : zRc N ni li mi mv nx al nc nl on il ba size ki fi se th kT hT kn ho kb0 hb0 gs le wi pr tp pt fr fb vk vh vc ve vq vg) (p1 : Int32) (p2 : Int32) (h1 : 0 ≤ p1.toInt) (h2 : 0 ≤ p2.toInt) : ((0 : Int32) = 0 → vp_in (jL_isTold_0_100_0 ni li mi mv nx al nc nl kb0 hb0 vk vg p1 p2) 49) ∧ ((0 : Int32) = 0 → vp_in (jL_isTold_0_121_0 ni li mi mv nx al nc nl kb0 hb0 vk vg p1 p2) 49) ∧ ((0 : Int32) = 0 → vp_in (jL_isTold_0_155_0 ni li mi mv nx al nc nl kb0 hb0 vk vg p1 p2) 49) ∧ rL_isTold_0 ni li mi mv nx al nc nl kb0 hb0 vk vg p1 p2 = 1 ∧ zRc N ni li mi mv nx al nc nl on il ba size ki fi se th kT hT kn ho (oL_isTold_0_kb0 ni li mi mv nx al nc nl kb0 hb0 vk vg p1 p2) hb0 gs le wi pr tp pt fr fb (oL_isTold_0_vk ni li mi mv nx al nc nl kb0 hb0 vk vg p1 p2) vh vc ve vq vg := by
  obtain ⟨⟨iC, iG, iN, iS, iK0, iK, iH0, iH⟩, ⟨kA, kB⟩, ⟨hA, hB⟩, hc, ⟨hE, hTp⟩, hp, hg⟩ := h
  have hm := zpk p1 13 12 6 6 6 rfl (by decide) h1
  have hs := zpk p2 9 8 4 4 4 rfl (by decide) h2
  have g4 := hg.2.2.2.2.1
  unfold rL_isTold_0 oL_isTold_0_kb0 oL_isTold_0_vk jL_isTold_0_198_0 jL_isTold_0_155_0 jL_isTold_0_121_0 jL_isTold_0_100_0 jL_isTold_0_82_0 jL_isTold_0_182_0 jL_isTold_0_165_0 jL_isTold_0_131_0 jL_isTold_0_25_0 jL_isTold_0_45_0
  generalize hme : (if zRem p1 13 = 12 then (6 : Int32) else zRem p1 6) = m at hm ⊢
  generalize hse : (if zRem p2 9 = 8 then (4 : Int32) else zRem p2 4) = s at hs ⊢
  generalize hde : (if jL_isTold_0_62_0 ni li mi mv nx al nc nl kb0 hb0 vk vg p1 p2 = 0 then (0 : Int32) else 1) = d
  have hd : d = 0 ∨ d = 1 := by
    rw [← hde]
    split
    · exact Or.inl rfl
    · exact Or.inr rfl
  clear hme hse hde
  by_cases hv : vp_in m 6 ∧ vp_in s 4
  · obtain ⟨rm, rs⟩ := hv
    have l1 := zin_lt rm
    have l2 := zin_lt rs
    have hx : ∀ d3, xX7_knows ni li mi mv nx al nc nl kb0 hb0 m s d3 = 0 := fun d3 => by
      unfold xX7_knows
      rw [if_pos (zMk rm), if_pos (zSk rs)]
    have w1 := zB0 (kA _ _ l1 l2)
    have w2 := zB1 (kA _ _ l1 l2)
    have i1 := yi_is0 (x := kb0 s.toNatClampNeg) rm
    simp only [if_neg (znle rm (c := 6) rfl), if_neg (znle rs (c := 4) rfl), if_neg z10, zN4, g4]
    refine ⟨fun _ => zin_2449' (zi4m rm rs), fun _ => zin_2449' (zi4m rm rs), fun _ => ?_, ?_, ?_⟩
    · split
      · exact zi24' (zi4m rm rs)
      · exact by unfold vp_in; decide
    · unfold rL_does_0
      rw [if_pos (hx _)]
      unfold rX7_knows rX2_isKnower
      rw [zc4m rm rs]
      by_cases q : rX7_isIn (kb0 s.toNatClampNeg) m = 0
      · rw [if_pos q, w1.mpr (i1.mp q), if_pos rfl]
      · rw [if_neg q, w2.mpr (Classical.byContradiction (fun r => q (i1.mpr r))), if_pos rfl]
    · have e1 : oL_does_0_kb0 ni li mi mv nx al nc nl kb0 hb0 m s d 0 = upd kb0 s.toNatClampNeg (if d = 0 then kb0 s.toNatClampNeg &&& (((1 : Int32) <<< (m &&& 31)) ^^^ (-1)) else kb0 s.toNatClampNeg ||| ((1 : Int32) <<< (m &&& 31))) := by
        unfold oL_does_0_kb0
        rw [if_pos (hx _)]
        unfold oX7_knows_kb0 jL_does_0_18_0 oX2_forget_fk oX2_learn_fk
        rcases hd with rfl | rfl
        · rfl
        · rfl
      have hbit : ∀ j : Nat, j < 6 → (yi (if d = 0 then kb0 s.toNatClampNeg &&& (((1 : Int32) <<< (m &&& 31)) ^^^ (-1)) else kb0 s.toNatClampNeg ||| ((1 : Int32) <<< (m &&& 31))) j ↔ (if j = m.toNatClampNeg then d = 1 else yi (kb0 s.toNatClampNeg) j)) := by
        intro j hj
        rcases hd with rfl | rfl
        · rw [if_pos rfl, yi_and, yi_not _ (by omega), yi_one3 rm (by omega)]
          by_cases q : j = m.toNatClampNeg
          · rw [if_pos q]
            exact ⟨fun r => absurd q r.2, fun r => absurd r (by decide)⟩
          · rw [if_neg q]
            exact ⟨fun r => r.1, fun r => ⟨r, q⟩⟩
        · rw [if_neg z10, yi_or, yi_one3 rm (by omega)]
          by_cases q : j = m.toNatClampNeg
          · rw [if_pos q]
            exact ⟨fun _ => rfl, fun _ => Or.inr q⟩
          · rw [if_neg q]
            exact ⟨fun r => r.elim id (fun r => absurd r q), Or.inl⟩
      have hdB : zB d (d = 1) := by
        rcases hd with rfl | rfl
        · exact Or.inr ⟨rfl, by decide⟩
        · exact Or.inl ⟨rfl, rfl⟩
      have k0' := yk_0_4 (ni := ni) (li := li) (mi := mi) (mv := mv) (nx := nx) (al := al) (nc := nc) (nl := nl) (hb0 := hb0) m s d 0 iK0
      rw [e1] at k0' ⊢
      have kA' := zJk_upd kA rm rs hdB hbit
      rw [zc4m rm rs]
      refine ⟨⟨iC, iG, iN, iS, k0', iK, iH0, iH⟩, ⟨?_, ?_⟩, ⟨hA, hB⟩, hc, ⟨hE, hTp⟩, hp, hg⟩
      · refine zJk_t kA' ?_ _
        by_cases q : ni = 0
        · rw [if_pos q, zc24p (zi4m rm rs)]
          omega
        · rw [if_neg q]
          decide
      · by_cases q : ni = 0
        · rw [if_pos q, if_pos q, zc24p (zi4m rm rs), zc4m rm rs, zsk]
          rw [if_pos q] at kB
          refine zJk_upd ?_ rm rs hdB hbit
          intro m' s' hm' hs'
          show zB (upd vk _ d (24 + (4 * m' + s'))) (yi (kb0 s') m')
          rw [zuN _ _ (by omega)]
          exact kB m' s' hm' hs'
        · rw [if_neg q, if_neg q]
          rw [if_neg q] at kB
          refine zJk_t2 (zJk_t2 kB (Or.inl (by omega)) _) (Or.inr (by decide)) _
  · have hx : ∀ d3, xX7_knows ni li mi mv nx al nc nl kb0 hb0 m s d3 = 1 := fun d3 => by
      unfold xX7_knows
      rcases hm with rfl | rm
      · rw [zM6, if_neg z1n]
      · rcases hs with rfl | rs
        · rw [if_pos (zMk rm), zS4, if_neg z1n]
        · exact absurd ⟨rm, rs⟩ hv
    have e82 : (if (6 : Int32) ≤ m then (0 : Int32) else (if (4 : Int32) ≤ s then 0 else 1)) = 0 := by
      rcases hm with rfl | rm
      · rw [if_pos (by decide)]
      · rcases hs with rfl | rs
        · rw [if_pos (show (4 : Int32) ≤ 4 by decide)]
          split <;> rfl
        · exact absurd ⟨rm, rs⟩ hv
    simp only [e82, if_true]
    refine ⟨fun _ => by unfold vp_in; decide, fun _ => by unfold vp_in; decide, fun _ => by unfold vp_in; decide, ?_, ?_⟩
    · unfold rL_does_0
      rw [hx, if_neg z1n, if_pos rfl]
    · have e1 : oL_does_0_kb0 ni li mi mv nx al nc nl kb0 hb0 m s d 0 = kb0 := by
        unfold oL_does_0_kb0
        rw [if_neg (by rw [hx]; decide)]
      rw [e1, zN48]
      exact ⟨⟨iC, iG, iN, iS, iK0, iK, iH0, iH⟩, ⟨zJk_t (zJk_t kA (by decide) _) (by decide) _, zJk_t2 (zJk_t2 kB (Or.inr (by decide)) _) (Or.inr (by decide)) _⟩, ⟨hA, hB⟩, hc, ⟨hE, hTp⟩, hp, hg⟩
set_option maxHeartbeats 2000000 in
theorem zT_1 {N : Nat} {ni li mi mv nx al nc nl on il ba size : Int32} {ki fi se th kT hT kn ho kb0 hb0 : Nat → Int32} {gs : Int32} {le wi pr tp pt : Nat → Int32} {fr fb : Nat → Int64} {vk vh vc ve vq vg : Nat → Int32} (h : zRc N ni li mi mv nx al nc nl on il ba size ki fi se th kT hT kn ho kb0 hb0 gs le wi pr tp pt fr fb vk vh vc ve vq vg) (p1 : Int32) (p2 : Int32) (h1 : 0 ≤ p1.toInt) (h2 : 0 ≤ p2.toInt) : (¬ (1 : Int32) = 0 → (1 : Int32) = (1 : Int32) → ¬ (jL_isTold_1_275_0 ni li mi mv nx al nc nl kb0 hb0 vh vg p1 p2) = 0 → vp_in (jL_isTold_1_231_0 ni li mi mv nx al nc nl kb0 hb0 vh vg p1 p2) 9) ∧ (¬ (1 : Int32) = 0 → (1 : Int32) = (1 : Int32) → vp_in (jL_isTold_1_307_0 ni li mi mv nx al nc nl kb0 hb0 vh vg p1 p2) 9) ∧ (¬ (1 : Int32) = 0 → (1 : Int32) = (1 : Int32) → vp_in (jL_isTold_1_334_0 ni li mi mv nx al nc nl kb0 hb0 vh vg p1 p2) 9) ∧ rL_isTold_1 ni li mi mv nx al nc nl kb0 hb0 vh vg p1 p2 = 1 ∧ zRc N ni li mi mv nx al nc nl on il ba size ki fi se th kT hT kn ho kb0 (oL_isTold_1_hb0 ni li mi mv nx al nc nl kb0 hb0 vh vg p1 p2) gs le wi pr tp pt fr fb vk (oL_isTold_1_vh ni li mi mv nx al nc nl kb0 hb0 vh vg p1 p2) vc ve vq vg := by
  obtain ⟨⟨iC, iG, iN, iS, iK0, iK, iH0, iH⟩, ⟨kA, kB⟩, ⟨hA, hB⟩, hc, ⟨hE, hTp⟩, hp, hg⟩ := h
  have hp_ := zpk p1 9 8 4 4 4 rfl (by decide) h1
  have hr7 := zrI p2 7 7 rfl (by decide) h2
  have hm : (if zRem p2 15 = 14 then (6 : Int32) else (zRem p2 7 - 1)) = 6 ∨ ((if zRem p2 15 = 14 then (6 : Int32) else (zRem p2 7 - 1)) = -1 ∨ vp_in (if zRem p2 15 = 14 then (6 : Int32) else (zRem p2 7 - 1)) 6) := by
    by_cases q : zRem p2 15 = 14
    · rw [if_pos q]
      exact Or.inl rfl
    · rw [if_neg q]
      have h7 := vp_in_iff.mp hr7
      have e1 : (1 : Int32).toInt = 1 := rfl
      have em : (-1 : Int32).toInt = -1 := rfl
      have e := zsT (a := zRem p2 7) (b := 1) (by omega) (by omega)
      by_cases r : (zRem p2 7).toInt = 0
      · exact Or.inr (Or.inl (Int32.toInt_inj.mp (by omega)))
      · exact Or.inr (Or.inr (zin_b (by omega) (by omega)))
  have g4 := hg.2.2.2.2.1
  unfold rL_isTold_1 oL_isTold_1_hb0 oL_isTold_1_vh jL_isTold_1_362_0 jL_isTold_1_334_0 jL_isTold_1_307_0 jL_isTold_1_292_0 jL_isTold_1_275_0 jL_isTold_1_255_0 jL_isTold_1_231_0
  generalize hme : (if zRem p2 15 = 14 then (6 : Int32) else (zRem p2 7 - 1)) = m at hm ⊢
  generalize hse : (if zRem p1 9 = 8 then (4 : Int32) else zRem p1 4) = w at hp_ ⊢
  clear hme hse
  by_cases hv : (m = -1 ∨ vp_in m 6) ∧ vp_in w 4
  · obtain ⟨rm, rw_⟩ := hv
    have l2 := zin_lt rw_
    have n6 : ¬ (6 : Int32) ≤ m := by
      rcases rm with rfl | rm
      · decide
      · exact znle rm rfl
    have hx : xX7_has ni li mi mv nx al nc nl kb0 hb0 w m = 0 := by
      unfold xX7_has qX7_has_13_x
      rw [if_pos (zPk rw_)]
      by_cases q : m = -1
      · rw [if_pos q]
      · rw [if_neg q, if_pos (zMk (rm.resolve_left q))]
    obtain ⟨m1, m2, m3, m4⟩ := zmp1 (iH0.1 _ l2)
    simp only [if_neg (znle rw_ (c := 4) rfl), if_neg n6, if_neg z10, zN4, g4]
    refine ⟨fun _ _ _ => zin_49 rw_, fun _ _ => zin_49 rw_, fun _ _ => ?_, ?_, ?_⟩
    · split
      · exact zi4 rw_
      · exact by unfold vp_in; decide
    · unfold rL_does_1
      rw [if_pos hx]
      unfold rX7_has qX7_has_13_r
      rw [hA _ l2, m3, if_pos rfl]
    · have e1 : oL_does_1_hb0 ni li mi mv nx al nc nl kb0 hb0 w m 0 0 = upd hb0 w.toNatClampNeg m := by
        unfold oL_does_1_hb0
        rw [if_pos hx]
        rfl
      have k0' := yk_1_6 (ni := ni) (li := li) (mi := mi) (mv := mv) (nx := nx) (al := al) (nc := nc) (nl := nl) (kb0 := kb0) w m 0 0 iH0
      rw [e1] at k0' ⊢
      refine ⟨⟨iC, iG, iN, iS, iK0, iK, k0', iH⟩, ⟨kA, kB⟩, ⟨?_, ?_⟩, hc, ⟨hE, hTp⟩, hp, hg⟩
      · refine zJh_t (zJh_upd hA) ?_ _
        by_cases q : ni = 0
        · rw [if_pos q, zc4p rw_]
          omega
        · rw [if_neg q]
          decide
      · by_cases q : ni = 0
        · rw [if_pos q, if_pos q, zc4p rw_, zsh]
          rw [if_pos q] at hB
          exact zJh_upd (zJh_t2 hB (Or.inl l2) _)
        · rw [if_neg q, if_neg q]
          rw [if_neg q] at hB
          exact zJh_t2 (zJh_t2 hB (Or.inl l2) _) (Or.inr (by decide)) _
  · have hx : xX7_has ni li mi mv nx al nc nl kb0 hb0 w m = 1 := by
      unfold xX7_has
      rcases hp_ with rfl | rw_
      · rw [zP4, if_neg z1n]
      · rcases hm with rfl | rm
        · rw [if_pos (zPk rw_), if_neg (by decide), zM6, if_neg z1n]
        · exact absurd ⟨rm, rw_⟩ hv
    have e82 : (if (4 : Int32) ≤ w then (0 : Int32) else (if (6 : Int32) ≤ m then 0 else 1)) = 0 := by
      rcases hp_ with rfl | rw_
      · rw [if_pos (by decide)]
      · rcases hm with rfl | rm
        · rw [if_pos (show (6 : Int32) ≤ 6 by decide)]
          split <;> rfl
        · exact absurd ⟨rm, rw_⟩ hv
    simp only [e82, if_true]
    refine ⟨fun _ _ q => (by simp at q), fun _ _ => by unfold vp_in; decide, fun _ _ => by unfold vp_in; decide, ?_, ?_⟩
    · unfold rL_does_1
      rw [hx, if_neg z1n, if_pos rfl]
    · have e1 : oL_does_1_hb0 ni li mi mv nx al nc nl kb0 hb0 w m 0 0 = hb0 := by
        unfold oL_does_1_hb0
        rw [if_neg (by rw [hx]; decide)]
      rw [e1, zN8]
      exact ⟨⟨iC, iG, iN, iS, iK0, iK, iH0, iH⟩, ⟨kA, kB⟩, ⟨zJh_t (zJh_t hA (by decide) _) (by decide) _, zJh_t2 (zJh_t2 hB (Or.inr (by decide)) _) (Or.inr (by decide)) _⟩, hc, ⟨hE, hTp⟩, hp, hg⟩
