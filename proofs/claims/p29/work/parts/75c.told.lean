/-! what is told, on -/
set_option maxHeartbeats 2000000 in
theorem zT_4 {N : Nat} {ni li mi mv nx al nc nl on il ba size : Int32} {ki fi se th kT hT kn ho kb0 hb0 : Nat → Int32} {gs : Int32} {le wi pr tp pt : Nat → Int32} {fr fb : Nat → Int64} {vk vh vc ve vq vg : Nat → Int32} (h : zRc N ni li mi mv nx al nc nl on il ba size ki fi se th kT hT kn ho kb0 hb0 gs le wi pr tp pt fr fb vk vh vc ve vq vg) (p1 : Int32) (p2 : Int32) (h1 : 0 ≤ p1.toInt) (h2 : 0 ≤ p2.toInt) : rL_isTold_4 ni li mi mv nx al nc nl on il ba vg p1 p2 = 1 ∧ zRc N ni li mi mv nx al nc nl (oL_isTold_4_on ni li mi mv nx al nc nl on il ba vg p1 p2) (oL_isTold_4_il ni li mi mv nx al nc nl on il ba vg p1 p2) ba size ki fi se th kT hT kn ho kb0 hb0 gs le wi pr tp pt fr fb vk vh vc ve vq (oL_isTold_4_vg ni li mi mv nx al nc nl on il ba vg p1 p2) := by
  obtain ⟨⟨iC, iG, iN, iS, iK0, iK, iH0, iH⟩, ⟨kA, kB⟩, ⟨hA, hB⟩, hc, ⟨hE, hTp⟩, hp, hg⟩ := h
  have hm := zpk p1 13 12 6 6 6 rfl (by decide) h1
  have hg' := hg
  obtain ⟨g0, g1, g2, g3, g4, g5, g6, g7, g8, g9, g10, g11, g12⟩ := hg'
  unfold rL_isTold_4 oL_isTold_4_on oL_isTold_4_il oL_isTold_4_vg jL_isTold_4_875_0 jL_isTold_4_844_0 jL_isTold_4_810_0
  generalize hme : (if zRem p1 13 = 12 then (6 : Int32) else zRem p1 6) = m at hm ⊢
  clear hme
  rcases hm with rfl | rm
  · have xs : xX7_ill ni li mi mv nx al nc nl on il ba 6 = 1 := by
      unfold xX7_ill
      rw [zM6, if_neg z1n]
    rw [if_pos (show (6 : Int32) ≤ 6 by decide), if_pos rfl]
    unfold rL_does_4 oL_does_4_on oL_does_4_il
    rw [xs, if_neg z1n, if_neg z1n, if_neg z1n]
    exact ⟨if_pos rfl, ⟨iC, iG, iN, iS, iK0, iK, iH0, iH⟩, ⟨kA, kB⟩, ⟨hA, hB⟩, hc, ⟨hE, hTp⟩, hp, hg⟩
  · have xs : xX7_ill ni li mi mv nx al nc nl on il ba m = 0 := by
      unfold xX7_ill
      rw [if_pos (zMk rm)]
    have k1 := yk_4_3 (ni := ni) (li := li) (mi := mi) (mv := mv) (nx := nx) (al := al) (nc := nc) (nl := nl) (ba := ba) m 0 0 0 iS
    have eo : oL_does_4_on ni li mi mv nx al nc nl on il ba m 0 0 0 = on &&& ((il ^^^ ((1 : Int32) <<< (m &&& 31))) ^^^ (-1)) := by
      unfold oL_does_4_on
      rw [xs, if_pos rfl]
      rfl
    have ei : oL_does_4_il ni li mi mv nx al nc nl on il ba m 0 0 0 = il ^^^ ((1 : Int32) <<< (m &&& 31)) := by
      unfold oL_does_4_il
      rw [xs, if_pos rfl]
      rfl
    rw [eo, ei] at k1
    rw [eo, ei, if_neg (znle rm rfl), if_neg (zvne rm rfl), zN1, zN9, zuE, zuN _ _ (show 9 ≠ 1 by decide), zuN _ _ (show 1 ≠ 9 by decide), zuE, g1, g9]
    unfold rL_does_4
    rw [xs, if_pos rfl]
    refine ⟨?_, ⟨iC, iG, iN, k1, iK0, iK, iH0, iH⟩, ⟨kA, kB⟩, ⟨hA, hB⟩, hc, ⟨hE, hTp⟩, hp, ?_⟩
    · unfold rX7_ill rX7_isIn
      generalize hx : ((il ^^^ ((1 : Int32) <<< (m &&& 31))) >>> (m &&& 31)) = x
      rcases zAnd1 x with q | q
      · rw [q]
        decide
      · rw [q]
        decide
    · refine ⟨?_, ?_, ?_, ?_, ?_, ?_, ?_, ?_, ?_, zuE _ _ _, ?_, ?_, ?_⟩
      · rw [zuN _ _ (by decide), zuN _ _ (by decide)]; assumption
      · rw [zuN _ _ (by decide), zuE]
      all_goals (rw [zuN _ _ (by decide), zuN _ _ (by decide)]; assumption)
set_option maxHeartbeats 2000000 in
theorem zT_5 {N : Nat} {ni li mi mv nx al nc nl on il ba size : Int32} {ki fi se th kT hT kn ho kb0 hb0 : Nat → Int32} {gs : Int32} {le wi pr tp pt : Nat → Int32} {fr fb : Nat → Int64} {vk vh vc ve vq vg : Nat → Int32} (h : zRc N ni li mi mv nx al nc nl on il ba size ki fi se th kT hT kn ho kb0 hb0 gs le wi pr tp pt fr fb vk vh vc ve vq vg) (p1 : Int32) (p2 : Int32) (h1 : 0 ≤ p1.toInt) (h2 : 0 ≤ p2.toInt) : rL_isTold_5 ni li mi mv nx al nc nl on il ba vg p1 p2 = 1 ∧ zRc N ni li mi mv nx al nc nl on il (oL_isTold_5_ba ni li mi mv nx al nc nl on il ba vg p1 p2) size ki fi se th kT hT kn ho kb0 hb0 gs le wi pr tp pt fr fb vk vh vc ve vq (oL_isTold_5_vg ni li mi mv nx al nc nl on il ba vg p1 p2) := by
  obtain ⟨⟨iC, iG, iN, iS, iK0, iK, iH0, iH⟩, ⟨kA, kB⟩, ⟨hA, hB⟩, hc, ⟨hE, hTp⟩, hp, hg⟩ := h
  have hm := zrI p1 5 5 rfl (by decide) h1
  have hg' := hg
  obtain ⟨g0, g1, g2, g3, g4, g5, g6, g7, g8, g9, g10, g11, g12⟩ := hg'
  unfold rL_isTold_5 oL_isTold_5_ba oL_isTold_5_vg jL_isTold_5_947_0 jL_isTold_5_915_0
  generalize hme : zRem p1 5 = m at hm ⊢
  clear hme
  have hm2 := vp_in_iff.mp hm
  have e4 : (4 : Int32).toInt = 4 := rfl
  by_cases q4 : m = 4
  · subst q4
    have xs : xX7_ban ni li mi mv nx al nc nl on il ba 4 = 1 := by
      unfold xX7_ban
      rw [zS4, if_neg z1n]
    rw [if_pos (show (4 : Int32) ≤ 4 by decide), if_pos rfl, zN2, g2, Int32.xor_zero]
    unfold rL_does_5 oL_does_5_ba
    rw [xs, if_neg z1n, if_neg z1n]
    refine ⟨if_pos rfl, ⟨iC, iG, iN, iS, iK0, iK, iH0, iH⟩, ⟨kA, kB⟩, ⟨hA, hB⟩, hc, ⟨hE, hTp⟩, hp, ?_⟩
    refine ⟨?_, ?_, zuE _ _ _, ?_, ?_, ?_, ?_, ?_, ?_, ?_, ?_, ?_, ?_⟩ <;> (rw [zuN _ _ (by decide)]; assumption)
  · have rm : vp_in m 4 := zin_b hm2.1 (by
      have h : m.toInt ≠ 4 := fun r => q4 (Int32.toInt_inj.mp (r.trans e4.symm))
      omega)
    have xs : xX7_ban ni li mi mv nx al nc nl on il ba m = 0 := by
      unfold xX7_ban
      rw [if_pos (zSk rm)]
    have ei : oL_does_5_ba ni li mi mv nx al nc nl on il ba m 0 0 0 = ba ^^^ ((1 : Int32) <<< (m &&& 31)) := by
      unfold oL_does_5_ba
      rw [xs, if_pos rfl]
      rfl
    rw [ei, if_neg (znle rm rfl), if_neg q4, zN2, zuE, g2]
    unfold rL_does_5
    rw [xs, if_pos rfl]
    refine ⟨?_, ⟨iC, iG, iN, iS, iK0, iK, iH0, iH⟩, ⟨kA, kB⟩, ⟨hA, hB⟩, hc, ⟨hE, hTp⟩, hp, ?_⟩
    · unfold rX7_ban rX7_isIn
      generalize hx : ((ba ^^^ ((1 : Int32) <<< (m &&& 31))) >>> (m &&& 31)) = x
      rcases zAnd1 x with q | q
      · rw [q]
        decide
      · rw [q]
        decide
    · refine ⟨?_, ?_, zuE _ _ _, ?_, ?_, ?_, ?_, ?_, ?_, ?_, ?_, ?_, ?_⟩ <;> (rw [zuN _ _ (by decide)]; assumption)
set_option maxHeartbeats 2000000 in
theorem zT_6 {N : Nat} {ni li mi mv nx al nc nl on il ba size : Int32} {ki fi se th kT hT kn ho kb0 hb0 : Nat → Int32} {gs : Int32} {le wi pr tp pt : Nat → Int32} {fr fb : Nat → Int64} {vk vh vc ve vq vg : Nat → Int32} (h : zRc N ni li mi mv nx al nc nl on il ba size ki fi se th kT hT kn ho kb0 hb0 gs le wi pr tp pt fr fb vk vh vc ve vq vg) (p1 : Int32) (p2 : Int32) (h1 : 0 ≤ p1.toInt) (h2 : 0 ≤ p2.toInt) : (¬ (6 : Int32) = 0 → ¬ (6 : Int32) = (1 : Int32) → ¬ (6 : Int32) = (2 : Int32) → ¬ (6 : Int32) = (3 : Int32) → ¬ (6 : Int32) = (4 : Int32) → ¬ (6 : Int32) = (5 : Int32) → (6 : Int32) = (6 : Int32) → ¬ (jL_isTold_6_1100_0 ni li mi mv nx al nc nl le wi pr tp gs ve vg p1 p2) = 0 → vp_in (vg ((3 : Int32)).toNatClampNeg) 12) ∧ rL_isTold_6 ni li mi mv nx al nc nl le wi pr tp gs ve vg p1 p2 = 1 ∧ zRc N ni li mi mv nx al nc nl on il ba size ki fi se th kT hT kn ho kb0 hb0 (oL_isTold_6_gs ni li mi mv nx al nc nl le wi pr tp gs ve vg p1 p2) (oL_isTold_6_le ni li mi mv nx al nc nl le wi pr tp gs ve vg p1 p2) (oL_isTold_6_wi ni li mi mv nx al nc nl le wi pr tp gs ve vg p1 p2) (oL_isTold_6_pr ni li mi mv nx al nc nl le wi pr tp gs ve vg p1 p2) tp pt fr fb vk vh vc (oL_isTold_6_ve ni li mi mv nx al nc nl le wi pr tp gs ve vg p1 p2) vq (oL_isTold_6_vg ni li mi mv nx al nc nl le wi pr tp gs ve vg p1 p2) := by
  obtain ⟨⟨iC, iG, iN, iS, iK0, iK, iH0, iH⟩, ⟨kA, kB⟩, ⟨hA, hB⟩, hc, ⟨hE, hTp⟩, hp, hg⟩ := h
  have e0 : (0 : Int32).toInt = 0 := rfl
  have e1 : (1 : Int32).toInt = 1 := rfl
  have e6 : (6 : Int32).toInt = 6 := rfl
  have e20 : (20 : Int32).toInt = 20 := rfl
  have e21 : (21 : Int32).toInt = 21 := rfl
  have e1000 : (1000 : Int32).toInt = 1000 := rfl
  have e1001 : (1001 : Int32).toInt = 1001 := rfl
  have em : (-1 : Int32).toInt = -1 := rfl
  have hl : vp_in (if zRem p1 9 = 0 then zRem (p1 / (9 : Int32)) 22 else ((1 : Int32) + zRem p1 4)) 22 := by
    by_cases q : zRem p1 9 = 0
    · rw [if_pos q]
      exact zrI _ 22 22 rfl (by decide) (zdv0 (n := 9) rfl (by decide) h1)
    · rw [if_neg q]
      have r := vp_in_iff.mp (zrI p1 4 4 rfl (by decide) h1)
      have e := zaT (a := 1) (b := zRem p1 4) (by omega) (by omega)
      exact zin_b (by omega) (by omega)
  have hw : vp_in (if zRem p2 9 = 0 then (zRem (p2 / (9 : Int32)) 2 * (1001 : Int32)) else zRem p2 1001) 1002 := by
    by_cases q : zRem p2 9 = 0
    · rw [if_pos q]
      have r := vp_in_iff.mp (zrI (p2 / (9 : Int32)) 2 2 rfl (by decide) (zdv0 (n := 9) rfl (by decide) h2))
      rw [Int32.mul_comm]
      have e := zmK (k := 1001) (n := 1001) (b := zRem (p2 / (9 : Int32)) 2) rfl (by omega) (by omega)
      exact zin_b (by omega) (by omega)
    · rw [if_neg q]
      exact zin_le (zrI _ 1001 1001 rfl (by decide) h2) (by decide)
  have hpp : (if zRem (p2 / (9 : Int32)) 15 = 14 then (4 : Int32) else (zRem (p2 / (9 : Int32)) 5 - 1)) = 4 ∨ ((if zRem (p2 / (9 : Int32)) 15 = 14 then (4 : Int32) else (zRem (p2 / (9 : Int32)) 5 - 1)) = -1 ∨ vp_in (if zRem (p2 / (9 : Int32)) 15 = 14 then (4 : Int32) else (zRem (p2 / (9 : Int32)) 5 - 1)) 4) := by
    by_cases q : zRem (p2 / (9 : Int32)) 15 = 14
    · rw [if_pos q]
      exact Or.inl rfl
    · rw [if_neg q]
      have r := vp_in_iff.mp (zrI (p2 / (9 : Int32)) 5 5 rfl (by decide) (zdv0 (n := 9) rfl (by decide) h2))
      have e := zsT (a := zRem (p2 / (9 : Int32)) 5) (b := 1) (by omega) (by omega)
      by_cases z : (zRem (p2 / (9 : Int32)) 5).toInt = 0
      · exact Or.inr (Or.inl (Int32.toInt_inj.mp (by omega)))
      · exact Or.inr (Or.inr (zin_b (by omega) (by omega)))
  have hg' := hg
  obtain ⟨g0, g1, g2, g3, g4, g5, g6, g7, g8, g9, g10, g11, g12⟩ := hg'
  unfold rL_isTold_6 oL_isTold_6_le oL_isTold_6_wi oL_isTold_6_pr oL_isTold_6_gs oL_isTold_6_ve oL_isTold_6_vg jL_isTold_6_1188_0 jL_isTold_6_1138_0 jL_isTold_6_1138_1 jL_isTold_6_1100_0 jL_isTold_6_1073_0 jL_isTold_6_988_0 jL_isTold_6_1018_0 jL_isTold_6_1046_0
  generalize hle : (if zRem p1 9 = 0 then zRem (p1 / (9 : Int32)) 22 else ((1 : Int32) + zRem p1 4)) = l at hl ⊢
  generalize hwe : (if zRem p2 9 = 0 then (zRem (p2 / (9 : Int32)) 2 * (1001 : Int32)) else zRem p2 1001) = w at hw ⊢
  generalize hpe : (if zRem (p2 / (9 : Int32)) 15 = 14 then (4 : Int32) else (zRem (p2 / (9 : Int32)) 5 - 1)) = p at hpp ⊢
  clear hle hwe hpe
  rw [zN3, g3]
  have hl2 := vp_in_iff.mp hl
  have hw2 := vp_in_iff.mp hw
  have keep : ∀ x : Nat, xX7_gag ni li mi mv nx al nc nl le wi pr tp gs l w p = x → ¬ x = 0 → zRc N ni li mi mv nx al nc nl on il ba size ki fi se th kT hT kn ho kb0 hb0 (oL_does_7_gs ni li mi mv nx al nc nl le wi pr tp gs l w p 0) (oL_does_7_le ni li mi mv nx al nc nl le wi pr tp gs l w p 0) (oL_does_7_wi ni li mi mv nx al nc nl le wi pr tp gs l w p 0) (oL_does_7_pr ni li mi mv nx al nc nl le wi pr tp gs l w p 0) tp pt fr fb vk vh vc ve vq vg := by
    intro x q1 q2
    unfold oL_does_7_gs oL_does_7_le oL_does_7_wi oL_does_7_pr
    rw [q1, if_neg q2, if_neg q2, if_neg q2, if_neg q2]
    exact ⟨⟨iC, iG, iN, iS, iK0, iK, iH0, iH⟩, ⟨kA, kB⟩, ⟨hA, hB⟩, hc, ⟨hE, hTp⟩, hp, hg⟩
  rcases hpp with rfl | rp
  · have xs : xX7_gag ni li mi mv nx al nc nl le wi pr tp gs l w 4 = 1 := by
      unfold xX7_gag
      rw [if_neg (by decide), zP4, if_neg z1n]
    simp only [if_pos (show (4 : Int32) ≤ 4 by decide), if_true]
    refine ⟨fun _ _ _ _ _ _ _ q => (by simp at q), ?_, keep 1 xs z1n⟩
    unfold rL_does_7
    rw [xs, if_neg z1n, if_pos rfl, if_pos rfl]
  · have p4 : ¬ (4 : Int32) ≤ p := by
      rcases rp with rfl | rp
      · decide
      · exact znle rp rfl
    have p5 : ¬ p = 4 := by
      rcases rp with rfl | rp
      · decide
      · exact zvne rp rfl
    have xq : xX7_gag ni li mi mv nx al nc nl le wi pr tp gs l w p = qX7_gag_9_x ni li mi mv nx al nc nl le wi pr tp gs l w p := by
      unfold xX7_gag
      by_cases q : p = -1
      · rw [if_pos q]
      · rw [if_neg q, if_pos (zPk (rp.resolve_left q))]
    rw [if_neg p4, if_neg p5]
    by_cases v : (1 ≤ l.toInt ∧ l.toInt ≤ 20) ∧ w.toInt ≤ 1000
    · have f1 : ¬ l ≤ 0 := by
        rw [Int32.le_iff_toInt_le]
        omega
      have f2 : ¬ (21 : Int32) ≤ l := by
        rw [Int32.le_iff_toInt_le]
        omega
      have f3 : ¬ (1001 : Int32) ≤ w := by
        rw [Int32.le_iff_toInt_le]
        omega
      have xs : xX7_gag ni li mi mv nx al nc nl le wi pr tp gs l w p = if gs < 6 then 0 else 3 := by
        rw [xq]
        unfold qX7_gag_9_x
        rw [if_pos (zRg (by omega) (by omega)), if_pos (zRg (by omega) (by omega))]
      rw [if_neg f1, if_neg f2, if_neg f3, if_neg z10, if_neg z10]
      by_cases r : gs < 6
      · rw [if_pos r] at xs
        have r2 : ¬ (6 : Int32) ≤ gs := by
          rw [Int32.le_iff_toInt_le]
          rw [Int32.lt_iff_toInt_lt] at r
          omega
        have r3 := Int32.lt_iff_toInt_lt.mp r
        obtain ⟨c0, c1, c2, c3⟩ := iG
        have en := zcn c0
        have hI := zInc r2
        rw [if_neg r2, if_neg z10, if_neg z10, if_neg z10, zuE]
        have k1 := yk_7_1 (ni := ni) (li := li) (mi := mi) (mv := mv) (nx := nx) (al := al) (nc := nc) (nl := nl) (le := le) (tp := tp) l w p 0 ⟨c0, c1, c2, c3⟩
        have es : oL_does_7_gs ni li mi mv nx al nc nl le wi pr tp gs l w p 0 = gs + 1 := by
          unfold oL_does_7_gs
          rw [xs, if_pos rfl]
          unfold oX7_gag_gs qX7_gag_9_gs oX1_add_gs
          rw [if_pos r]
        have el : oL_does_7_le ni li mi mv nx al nc nl le wi pr tp gs l w p 0 = upd le gs.toNatClampNeg l := by
          unfold oL_does_7_le
          rw [xs, if_pos rfl]
          unfold oX7_gag_le qX7_gag_9_le oX1_add_le
          rw [if_pos r]
        have ew : oL_does_7_wi ni li mi mv nx al nc nl le wi pr tp gs l w p 0 = upd wi gs.toNatClampNeg w := by
          unfold oL_does_7_wi
          rw [xs, if_pos rfl]
          unfold oX7_gag_wi qX7_gag_9_wi oX1_add_wi
          rw [if_pos r]
        have ep : oL_does_7_pr ni li mi mv nx al nc nl le wi pr tp gs l w p 0 = upd pr gs.toNatClampNeg p := by
          unfold oL_does_7_pr
          rw [xs, if_pos rfl]
          unfold oX7_gag_pr qX7_gag_9_pr oX1_add_pr
          rw [if_pos r]
        rw [es, ew, ep] at k1
        rw [es, el, ew, ep]
        refine ⟨fun _ _ _ _ _ _ _ _ => zin_b c0 (by omega), ?_, ⟨iC, k1, iN, iS, iK0, iK, iH0, iH⟩, ⟨kA, kB⟩, ⟨hA, hB⟩, hc, ⟨?_, ?_⟩, hp, ?_⟩
        · unfold rL_does_7
          rw [xs, if_pos rfl]
          unfold rX7_gag qX7_gag_9_r rX1_add
          rw [if_pos r, Int32.add_sub_cancel, if_pos rfl]
        · intro j hj
          rw [yupd32, yupd32, yupd32, yupd32]
          by_cases z : j = gs.toNatClampNeg
          · rw [if_pos z, if_pos z, if_pos z, if_pos z]
            exact ⟨zin_b (by omega) (by omega), rfl⟩
          · rw [if_neg z, if_neg z, if_neg z, if_neg z]
            exact hE j (by omega)
        · intro j hj
          rw [zuN _ _ (by omega)]
          exact hTp j hj
        · refine ⟨?_, ?_, ?_, zuE _ _ _, ?_, ?_, ?_, ?_, ?_, ?_, ?_, ?_, ?_⟩ <;> (rw [zuN _ _ (by decide)]; assumption)
      · rw [if_neg r] at xs
        have r2 : (6 : Int32) ≤ gs := by
          rw [Int32.le_iff_toInt_le]
          rw [Int32.lt_iff_toInt_lt] at r
          omega
        simp only [if_pos r2, if_true]
        refine ⟨fun _ _ _ _ _ _ _ q => (by simp at q), ?_, keep 3 xs z3n⟩
        unfold rL_does_7
        rw [xs, if_neg z3n, if_neg z31n, if_neg z32n, if_pos rfl]
    · have f0 : (if l ≤ 0 then (0 : Int32) else (if (21 : Int32) ≤ l then 0 else (if (1001 : Int32) ≤ w then 0 else 1))) = 0 := by
        by_cases f1 : l ≤ 0
        · rw [if_pos f1]
        · rw [if_neg f1]
          by_cases f2 : (21 : Int32) ≤ l
          · rw [if_pos f2]
          · rw [if_neg f2]
            by_cases f3 : (1001 : Int32) ≤ w
            · rw [if_pos f3]
            · rw [Int32.le_iff_toInt_le] at f1 f2 f3
              exact absurd ⟨⟨by omega, by omega⟩, by omega⟩ v
      have xs : xX7_gag ni li mi mv nx al nc nl le wi pr tp gs l w p = 2 := by
        rw [xq]
        unfold qX7_gag_9_x
        by_cases v1 : 1 ≤ l.toInt ∧ l.toInt ≤ 20
        · rw [if_pos (zRg (by omega) (by omega)), zRg2 (fun q => v ⟨v1, by omega⟩), if_neg z2n]
        · rw [zRg2 (fun q => v1 ⟨by omega, by omega⟩), if_neg z2n]
      simp only [f0, if_true]
      refine ⟨fun _ _ _ _ _ _ _ q => (by simp at q), ?_, keep 2 xs z2n⟩
      unfold rL_does_7
      rw [xs, if_neg z2n, if_neg z21n, if_pos rfl, if_pos rfl]
set_option maxHeartbeats 2000000 in
theorem zT_7 {N : Nat} {ni li mi mv nx al nc nl on il ba size : Int32} {ki fi se th kT hT kn ho kb0 hb0 : Nat → Int32} {gs : Int32} {le wi pr tp pt : Nat → Int32} {fr fb : Nat → Int64} {vk vh vc ve vq vg : Nat → Int32} (h : zRc N ni li mi mv nx al nc nl on il ba size ki fi se th kT hT kn ho kb0 hb0 gs le wi pr tp pt fr fb vk vh vc ve vq vg) (p1 : Int32) (p2 : Int32) (h1 : 0 ≤ p1.toInt) (h2 : 0 ≤ p2.toInt) : (¬ (7 : Int32) = 0 → ¬ (7 : Int32) = (1 : Int32) → ¬ (7 : Int32) = (2 : Int32) → ¬ (7 : Int32) = (3 : Int32) → ¬ (7 : Int32) = (4 : Int32) → ¬ (7 : Int32) = (5 : Int32) → ¬ (7 : Int32) = (6 : Int32) → ¬ (6 : Int32) ≤ (jL_isTold_7_1217_0 ni li mi mv nx al nc nl pt vq p1 p2) → vp_in (jL_isTold_7_1217_0 ni li mi mv nx al nc nl pt vq p1 p2) 7) ∧ (¬ (7 : Int32) = 0 → ¬ (7 : Int32) = (1 : Int32) → ¬ (7 : Int32) = (2 : Int32) → ¬ (7 : Int32) = (3 : Int32) → ¬ (7 : Int32) = (4 : Int32) → ¬ (7 : Int32) = (5 : Int32) → ¬ (7 : Int32) = (6 : Int32) → vp_in (jL_isTold_7_1279_0 ni li mi mv nx al nc nl pt vq p1 p2) 7) ∧ rL_isTold_7 ni li mi mv nx al nc nl pt vq p1 p2 = 1 ∧ zRc N ni li mi mv nx al nc nl on il ba size ki fi se th kT hT kn ho kb0 hb0 gs le wi pr tp (oL_isTold_7_pt ni li mi mv nx al nc nl pt vq p1 p2) fr fb vk vh vc ve (oL_isTold_7_vq ni li mi mv nx al nc nl pt vq p1 p2) vg := by
  obtain ⟨⟨iC, iG, iN, iS, iK0, iK, iH0, iH⟩, ⟨kA, kB⟩, ⟨hA, hB⟩, hc, ⟨hE, hTp⟩, hp, hg⟩ := h
  have e0 : (0 : Int32).toInt = 0 := rfl
  have e100 : (100 : Int32).toInt = 100 := rfl
  have e101 : (101 : Int32).toInt = 101 := rfl
  have hm := zpk p1 13 12 6 6 6 rfl (by decide) h1
  have hq := zrI p2 102 102 rfl (by decide) h2
  unfold rL_isTold_7 oL_isTold_7_pt oL_isTold_7_vq jL_isTold_7_1318_0 jL_isTold_7_1279_0 jL_isTold_7_1256_0 jL_isTold_7_1217_0 jL_isTold_7_1238_0
  generalize hme : (if zRem p1 13 = 12 then (6 : Int32) else zRem p1 6) = m at hm ⊢
  generalize hqe : zRem p2 102 = q at hq ⊢
  clear hme hqe
  have hq2 := vp_in_iff.mp hq
  rcases hm with rfl | rm
  · have xs : xX7_points ni li mi mv nx al nc nl pt 6 q = 1 := by
      unfold xX7_points
      rw [zM6, if_neg z1n]
    unfold rL_does_8 oL_does_8_pt
    rw [xs, if_neg z1n, if_pos rfl, if_neg z1n, if_pos rfl, if_pos (show (6 : Int32) ≤ 6 by decide), zN6]
    refine ⟨fun _ _ _ _ _ _ _ r => absurd (by decide) r, fun _ _ _ _ _ _ _ => by unfold vp_in; decide, if_pos rfl, ⟨iC, iG, iN, iS, iK0, iK, iH0, iH⟩, ⟨kA, kB⟩, ⟨hA, hB⟩, hc, ⟨hE, hTp⟩, ?_, hg⟩
    intro j hj
    rw [zuN _ _ (by omega)]
    exact hp j hj
  · rw [if_neg (znle rm rfl), if_neg (znle rm rfl), if_neg (zvne rm rfl)]
    by_cases v : (101 : Int32) ≤ q
    · have v2 := v
      rw [Int32.le_iff_toInt_le] at v2
      have xs : xX7_points ni li mi mv nx al nc nl pt m q = 2 := by
        unfold xX7_points
        rw [if_pos (zMk rm), zRg2 (by omega), if_neg z2n]
      unfold rL_does_8 oL_does_8_pt
      rw [xs, if_neg z2n, if_neg z21n, if_neg z2n, if_pos v, if_pos rfl, if_pos rfl, zN6]
      refine ⟨fun _ _ _ _ _ _ _ _ => zin_67 rm, fun _ _ _ _ _ _ _ => by unfold vp_in; decide, if_pos rfl, ⟨iC, iG, iN, iS, iK0, iK, iH0, iH⟩, ⟨kA, kB⟩, ⟨hA, hB⟩, hc, ⟨hE, hTp⟩, ?_, hg⟩
      intro j hj
      rw [zuN _ _ (by omega)]
      exact hp j hj
    · have v2 := v
      rw [Int32.le_iff_toInt_le] at v2
      have xs : xX7_points ni li mi mv nx al nc nl pt m q = 0 := by
        unfold xX7_points
        rw [if_pos (zMk rm), if_pos (zRg (by omega) (by omega))]
      unfold rL_does_8 oL_does_8_pt
      rw [xs, if_pos rfl, if_pos rfl, if_neg v, if_neg z10, if_neg z10]
      unfold rX7_points oX7_points_pt
      refine ⟨fun _ _ _ _ _ _ _ _ => zin_67 rm, fun _ _ _ _ _ _ _ => zin_67 rm, if_pos (hp _ (zin_lt rm)).symm, ⟨iC, iG, iN, iS, iK0, iK, iH0, iH⟩, ⟨kA, kB⟩, ⟨hA, hB⟩, hc, ⟨hE, hTp⟩, ?_, hg⟩
      intro j hj
      rw [yupd32, yupd32]
      by_cases z : j = m.toNatClampNeg
      · rw [if_pos z, if_pos z]
      · rw [if_neg z, if_neg z]
        exact hp j hj
