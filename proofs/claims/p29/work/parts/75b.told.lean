/-! what is told, on -/
set_option maxHeartbeats 2000000 in
theorem zT_2 {N : Nat} {ni li mi mv nx al nc nl on il ba size : Int32} {ki fi se th kT hT kn ho kb0 hb0 : Nat → Int32} {gs : Int32} {le wi pr tp pt : Nat → Int32} {fr fb : Nat → Int64} {vk vh vc ve vq vg : Nat → Int32} (h : zRc N ni li mi mv nx al nc nl on il ba size ki fi se th kT hT kn ho kb0 hb0 gs le wi pr tp pt fr fb vk vh vc ve vq vg) (p1 : Int32) (p2 : Int32) (h1 : 0 ≤ p1.toInt) (h2 : 0 ≤ p2.toInt) : (¬ (2 : Int32) = 0 → ¬ (2 : Int32) = (1 : Int32) → (2 : Int32) = (2 : Int32) → ¬ (jL_isTold_2_530_0 ni li mi mv nx al nc nl ki fi se th size vc vg p1 p2) = 0 → vp_in (vg ((0 : Int32)).toNatClampNeg) 13) ∧ rL_isTold_2 ni li mi mv nx al nc nl ki fi se th size vc vg p1 p2 = 1 ∧ zRc N ni li mi mv nx al nc nl on il ba (oL_isTold_2_size ni li mi mv nx al nc nl ki fi se th size vc vg p1 p2) (oL_isTold_2_ki ni li mi mv nx al nc nl ki fi se th size vc vg p1 p2) (oL_isTold_2_fi ni li mi mv nx al nc nl ki fi se th size vc vg p1 p2) (oL_isTold_2_se ni li mi mv nx al nc nl ki fi se th size vc vg p1 p2) (oL_isTold_2_th ni li mi mv nx al nc nl ki fi se th size vc vg p1 p2) kT hT kn ho kb0 hb0 gs le wi pr tp pt fr fb vk vh (oL_isTold_2_vc ni li mi mv nx al nc nl ki fi se th size vc vg p1 p2) ve vq (oL_isTold_2_vg ni li mi mv nx al nc nl ki fi se th size vc vg p1 p2) := by
  obtain ⟨⟨iC, iG, iN, iS, iK0, iK, iH0, iH⟩, ⟨kA, kB⟩, ⟨hA, hB⟩, hc, ⟨hE, hTp⟩, hp, hg⟩ := h
  have hk := zpk p1 17 16 5 5 5 rfl (by decide) h1
  have ha := zpk (p1 / (17 : Int32)) 13 12 6 6 6 rfl (by decide) (zdv0 (n := 17) rfl (by decide) h1)
  have rb := zrI p2 6 6 rfl (by decide) h2
  have hw0 := zpk (p2 / (6 : Int32)) 9 8 4 2 2 rfl (by decide) (zdv0 (n := 6) rfl (by decide) h2)
  have hg' := hg
  obtain ⟨g0, g1, g2, g3, g4, g5, g6, g7, g8, g9, g10, g11, g12⟩ := hg'
  unfold rL_isTold_2 oL_isTold_2_ki oL_isTold_2_fi oL_isTold_2_se oL_isTold_2_th oL_isTold_2_size oL_isTold_2_vc oL_isTold_2_vg jL_isTold_2_619_0 jL_isTold_2_572_0 jL_isTold_2_572_1 jL_isTold_2_530_0 jL_isTold_2_496_0 jL_isTold_2_476_0 jL_isTold_2_395_0 jL_isTold_2_423_0 jL_isTold_2_456_0
  generalize hke : (if zRem p1 17 = 16 then (5 : Int32) else zRem p1 5) = kd at hk ⊢
  generalize hae : (if zRem (p1 / (17 : Int32)) 13 = 12 then (6 : Int32) else zRem (p1 / (17 : Int32)) 6) = a at ha ⊢
  generalize hbe : zRem p2 6 = b at rb ⊢
  generalize hwe : (if zRem (p2 / (6 : Int32)) 9 = 8 then (4 : Int32) else zRem (p2 / (6 : Int32)) 2) = w at hw0 ⊢
  have hw : w = 4 ∨ vp_in w 4 := hw0.imp id (fun q => zin_le q (by decide))
  clear hke hae hbe hwe hw0
  rw [zN0, g0, zN4, g4]
  have keep : ∀ x : Nat, xX7_step ni li mi mv nx al nc nl ki fi se th size kd a b w = x → ¬ x = 0 → zRc N ni li mi mv nx al nc nl on il ba (oL_does_2_size ni li mi mv nx al nc nl ki fi se th size kd a b w) (oL_does_2_ki ni li mi mv nx al nc nl ki fi se th size kd a b w) (oL_does_2_fi ni li mi mv nx al nc nl ki fi se th size kd a b w) (oL_does_2_se ni li mi mv nx al nc nl ki fi se th size kd a b w) (oL_does_2_th ni li mi mv nx al nc nl ki fi se th size kd a b w) kT hT kn ho kb0 hb0 gs le wi pr tp pt fr fb vk vh vc ve vq vg := by
    intro x q1 q2
    unfold oL_does_2_size oL_does_2_ki oL_does_2_fi oL_does_2_se oL_does_2_th
    rw [q1, if_neg q2, if_neg q2, if_neg q2, if_neg q2, if_neg q2]
    exact ⟨⟨iC, iG, iN, iS, iK0, iK, iH0, iH⟩, ⟨kA, kB⟩, ⟨hA, hB⟩, hc, ⟨hE, hTp⟩, hp, hg⟩
  by_cases v1 : vp_in a 6 ∧ vp_in w 4
  · obtain ⟨ra, rw_⟩ := v1
    have e1 : (if (6 : Int32) ≤ a then (0 : Int32) else (if (4 : Int32) ≤ w then 0 else 1)) = 1 := by rw [if_neg (znle ra rfl), if_neg (znle rw_ rfl)]
    rw [e1, if_neg z10, if_neg z10]
    by_cases v2 : vp_in kd 5 ∧ ¬ a = b
    · obtain ⟨rk, hab⟩ := v2
      have e2 : (if (5 : Int32) ≤ kd then (0 : Int32) else (if a = b then 0 else 1)) = 1 := by rw [if_neg (znle rk rfl), if_neg hab]
      rw [e2, if_neg z10, if_neg z10]
      have rk2 := vp_in_iff.mp rk
      have e0 : (0 : Int32).toInt = 0 := rfl
      have e4 : (4 : Int32).toInt = 4 := rfl
      have e12 : (12 : Int32).toInt = 12 := rfl
      have xs : xX7_step ni li mi mv nx al nc nl ki fi se th size kd a b w = if ni = 1 then 3 else if size < 12 then 0 else 3 := by
        unfold xX7_step
        rw [if_pos (zMk ra), if_pos (zMk rb), if_pos (zSk rw_), if_pos (zRg (by omega) (by omega)), if_pos (zUn0 hab)]
        by_cases q : ni = 1
        · rw [zNP3 q, if_pos q, if_neg z3n]
        · rw [zNP0 q, if_neg q, if_pos rfl]
      by_cases q : ni = 1
      · rw [if_pos q] at xs
        simp only [if_pos q, if_true]
        refine ⟨fun _ _ _ r => (by simp at r), ?_, keep 3 xs z3n⟩
        unfold rL_does_2
        rw [xs, if_neg z3n, if_neg z31n, if_neg z32n, if_pos rfl]
      · rw [if_neg q] at xs
        by_cases r : size < 12
        · rw [if_pos r] at xs
          have r2 : ¬ (12 : Int32) ≤ size := by
            rw [Int32.le_iff_toInt_le]
            rw [Int32.lt_iff_toInt_lt] at r
            omega
          have r3 := Int32.lt_iff_toInt_lt.mp r
          have c0 := iC.1
          have hn12 : size.toNatClampNeg < 12 := by
            have e := zcn c0
            omega
          simp only [if_neg q, if_neg r2, if_neg z10]
          refine ⟨fun _ _ _ _ => zin_b c0 (by omega), ?_, ?_⟩
          · unfold rL_does_2
            rw [xs, if_pos rfl]
            unfold rX7_step oX0_add_size
            rw [if_neg r2, zuE, if_pos rfl]
          · have k1 := yk_2_0 (ni := ni) (li := li) (mi := mi) (mv := mv) (nx := nx) (al := al) (nc := nc) (nl := nl) kd a b w iC
            have k2 := yk_2_2 (li := li) (mi := mi) (mv := mv) (al := al) (nc := nc) (nl := nl) (ki := ki) (fi := fi) (se := se) (th := th) kd a b w iN
            have es : oL_does_2_size ni li mi mv nx al nc nl ki fi se th size kd a b w = size + 1 := by
              unfold oL_does_2_size
              rw [xs, if_pos rfl]
              unfold oX7_step_size oX0_add_size
              rw [if_neg r2]
            have ek : oL_does_2_ki ni li mi mv nx al nc nl ki fi se th size kd a b w = upd ki size.toNatClampNeg kd := by
              unfold oL_does_2_ki
              rw [xs, if_pos rfl]
              unfold oX7_step_ki oX0_add_ki
              rw [if_neg r2]
            have ef : oL_does_2_fi ni li mi mv nx al nc nl ki fi se th size kd a b w = upd fi size.toNatClampNeg a := by
              unfold oL_does_2_fi
              rw [xs, if_pos rfl]
              unfold oX7_step_fi oX0_add_fi
              rw [if_neg r2]
            have ee : oL_does_2_se ni li mi mv nx al nc nl ki fi se th size kd a b w = upd se size.toNatClampNeg b := by
              unfold oL_does_2_se
              rw [xs, if_pos rfl]
              unfold oX7_step_se oX0_add_se
              rw [if_neg r2]
            have et : oL_does_2_th ni li mi mv nx al nc nl ki fi se th size kd a b w = upd th size.toNatClampNeg w := by
              unfold oL_does_2_th
              rw [xs, if_pos rfl]
              unfold oX7_step_th oX0_add_th
              rw [if_neg r2]
            rw [es, ek, ef, ee, et] at k1
            rw [es] at k2
            rw [es, ek, ef, ee, et]
            refine ⟨⟨k1, iG, k2, iS, iK0, iK, iH0, iH⟩, ⟨kA, kB⟩, ⟨hA, hB⟩, ?_, ⟨hE, hTp⟩, hp, ?_⟩
            · intro j hj
              rw [yupd32, yupd32, yupd32, yupd32, yupd32]
              by_cases z : j = size.toNatClampNeg
              · rw [if_pos z, if_pos z, if_pos z, if_pos z, if_pos z]
                rfl
              · rw [if_neg z, if_neg z, if_neg z, if_neg z, if_neg z]
                exact hc j hj
            · refine ⟨zuE _ _ _, ?_, ?_, ?_, ?_, ?_, ?_, ?_, ?_, ?_, ?_, ?_, ?_⟩ <;> (rw [zuN _ _ (by decide)]; assumption)
        · rw [if_neg r] at xs
          have r2 : (12 : Int32) ≤ size := by
            rw [Int32.le_iff_toInt_le]
            rw [Int32.lt_iff_toInt_lt] at r
            omega
          simp only [if_neg q, if_pos r2, if_true]
          refine ⟨fun _ _ _ r => (by simp at r), ?_, keep 3 xs z3n⟩
          unfold rL_does_2
          rw [xs, if_neg z3n, if_neg z31n, if_neg z32n, if_pos rfl]
    · have e2 : (if (5 : Int32) ≤ kd then (0 : Int32) else (if a = b then 0 else 1)) = 0 := by
        rcases hk with rfl | rk
        · rw [if_pos (by decide)]
        · by_cases hab : a = b
          · rw [if_pos hab]
            split <;> rfl
          · exact absurd ⟨rk, hab⟩ v2
      have xs : xX7_step ni li mi mv nx al nc nl ki fi se th size kd a b w = 2 := by
        unfold xX7_step
        rw [if_pos (zMk ra), if_pos (zMk rb), if_pos (zSk rw_)]
        rcases hk with rfl | rk
        · rw [show xX7_needRange 5 0 4 = 2 by decide, if_neg z2n]
        · have rk2 := vp_in_iff.mp rk
          have e0 : (0 : Int32).toInt = 0 := rfl
          have e4 : (4 : Int32).toInt = 4 := rfl
          rw [if_pos (zRg (by omega) (by omega))]
          by_cases hab : a = b
          · rw [zUn2 hab, if_neg z2n]
          · exact absurd ⟨rk, hab⟩ v2
      simp only [e2, if_true]
      refine ⟨fun _ _ _ r => (by simp at r), ?_, keep 2 xs z2n⟩
      unfold rL_does_2
      rw [xs, if_neg z2n, if_neg z21n, if_pos rfl, if_pos rfl]
  · have e1 : (if (6 : Int32) ≤ a then (0 : Int32) else (if (4 : Int32) ≤ w then 0 else 1)) = 0 := by
      rcases ha with rfl | ra
      · rw [if_pos (by decide)]
      · rcases hw with rfl | rw_
        · rw [if_pos (show (4 : Int32) ≤ 4 by decide)]
          split <;> rfl
        · exact absurd ⟨ra, rw_⟩ v1
    have xs : xX7_step ni li mi mv nx al nc nl ki fi se th size kd a b w = 1 := by
      unfold xX7_step
      rcases ha with rfl | ra
      · rw [zM6, if_neg z1n]
      · rcases hw with rfl | rw_
        · rw [if_pos (zMk ra), if_pos (zMk rb), zS4, if_neg z1n]
        · exact absurd ⟨ra, rw_⟩ v1
    simp only [e1, if_true]
    refine ⟨fun _ _ _ r => (by simp at r), ?_, keep 1 xs z1n⟩
    unfold rL_does_2
    rw [xs, if_neg z1n, if_pos rfl, if_pos rfl]
theorem zL710 (ni : Int32)(li : Int32)(mi : Int32)(mv : Int32)(nx : Int32)(al : Int32)(nc : Int32)(nl : Int32)(ki : Nat → Int32)(fi : Nat → Int32)(se : Nat → Int32)(th : Nat → Int32)(size : Int32)(on : Int32)(il : Int32)(ba : Int32)(le : Nat → Int32)(wi : Nat → Int32)(pr : Nat → Int32)(tp : Nat → Int32)(gs : Int32)(ve : Nat → Int32)(vg : Nat → Int32)(p1 : Int32)(p2 : Int32) (hF : ¬ jL_isTold_3_647_0 ni li mi mv nx al nc nl ki fi se th size on il ba le wi pr tp gs ve vg p1 p2 = 0) : ∀ (n : Nat) (v : Nat → Int32) (i : Int32), 0 ≤ i.toInt → 6 - i.toInt < n → (∀ j : Nat, j < 6 → (lL_isTold_3_710_ve1 ni li mi mv nx al nc nl ki fi se th size on il ba le wi pr tp gs ve vg p1 p2 n v i j = v j)) ∧ (∀ j : Nat, j < 6 → (j : Int) < i.toInt → lL_isTold_3_710_ve1 ni li mi mv nx al nc nl ki fi se th size on il ba le wi pr tp gs ve vg p1 p2 n v i (6 + j) = v (6 + j)) ∧ (∀ j : Nat, j < 6 → i.toInt ≤ j → lL_isTold_3_710_ve1 ni li mi mv nx al nc nl ki fi se th size on il ba le wi pr tp gs ve vg p1 p2 n v i (6 + j) = 0) := by
  intro n
  induction n with
  | zero =>
    intro v i h0 h1
    have e6 : (6 : Int32).toInt = 6 := rfl
    rw [lL_isTold_3_710_ve1]
    exact ⟨fun _ _ => rfl, fun _ _ _ => rfl, fun j hj h2 => by omega⟩
  | succ n ih =>
    intro v i h0 h1
    have e6 : (6 : Int32).toInt = 6 := rfl
    rw [lL_isTold_3_710_ve1]
    by_cases hc : (6 : Int32) ≤ i
    · rw [if_pos hc]
      rw [Int32.le_iff_toInt_le] at hc
      exact ⟨fun _ _ => rfl, fun _ _ _ => rfl, fun j hj h2 => by omega⟩
    · rw [if_neg hc, if_neg hF]
      have hI := zInc hc
      have hi : vp_in i 6 := zin_c h0 hc (by decide)
      have hi2 := vp_in_iff.mp hi
      have en := zci hi
      have e := zc6p hi
      obtain ⟨a1, a2, a3⟩ := ih (upd v ((6 : Int32) + i).toNatClampNeg (0 : Int32)) (i + 1) (by omega) (by omega)
      refine ⟨fun j hj => ?_, fun j hj h2 => ?_, fun j hj h2 => ?_⟩
      · rw [a1 j hj, e, zuN _ _ (by omega)]
      · rw [a2 j hj (by omega), e, zuN _ _ (by omega)]
      · by_cases q : (j : Int) = i.toInt
        · rw [a2 j hj (by omega), e, show 6 + j = 6 + i.toNatClampNeg by omega, zuE]
        · exact a3 j hj (by omega)
theorem zfill (f0 : Nat → Int32) : ∀ (n : Nat) (f : Nat → Int32) (i : Int32), 0 ≤ i.toInt → 6 - i.toInt < n → (∀ j : Nat, (j : Int) < i.toInt → f j = 0) → ∀ j : Nat, j < 6 → lJ7_fill_53178_5_f f0 6 0 n f i j = 0 := by
  intro n
  induction n with
  | zero =>
    intro f i h0 h1 hf j hj
    rw [lJ7_fill_53178_5_f]
  | succ n ih =>
    intro f i h0 h1 hf j hj
    rw [lJ7_fill_53178_5_f]
    have e6 : (Int32.ofNat 6).toInt = 6 := by decide
    by_cases hc : Int32.ofNat 6 ≤ i
    · rw [if_pos hc]
      rw [Int32.le_iff_toInt_le] at hc
      exact hf j (by omega)
    · rw [if_neg hc]
      have hI := zInc hc
      have en := zcn h0
      rw [Int32.le_iff_toInt_le] at hc
      refine ih _ (i + 1) (by omega) (by omega) (fun j2 h2 => ?_) j hj
      rw [yupd32]
      by_cases q : j2 = i.toNatClampNeg
      · rw [if_pos q]
      · rw [if_neg q]
        exact hf j2 (by omega)
set_option maxHeartbeats 2000000 in
theorem zT_3 {N : Nat} {ni li mi mv nx al nc nl on il ba size : Int32} {ki fi se th kT hT kn ho kb0 hb0 : Nat → Int32} {gs : Int32} {le wi pr tp pt : Nat → Int32} {fr fb : Nat → Int64} {vk vh vc ve vq vg : Nat → Int32} (h : zRc N ni li mi mv nx al nc nl on il ba size ki fi se th kT hT kn ho kb0 hb0 gs le wi pr tp pt fr fb vk vh vc ve vq vg) (p1 : Int32) (p2 : Int32) (h1 : 0 ≤ p1.toInt) (h2 : 0 ≤ p2.toInt) : rL_isTold_3 ni li mi mv nx al nc nl ki fi se th size on il ba le wi pr tp gs ve vg p1 p2 = 1 ∧ zRc N ni li mi mv nx al nc nl on il (oL_isTold_3_ba ni li mi mv nx al nc nl ki fi se th size on il ba le wi pr tp gs ve vg p1 p2) (oL_isTold_3_size ni li mi mv nx al nc nl ki fi se th size on il ba le wi pr tp gs ve vg p1 p2) ki fi se th kT hT kn ho kb0 hb0 gs le wi pr (oL_isTold_3_tp ni li mi mv nx al nc nl ki fi se th size on il ba le wi pr tp gs ve vg p1 p2) pt fr fb vk vh vc (oL_isTold_3_ve ni li mi mv nx al nc nl ki fi se th size on il ba le wi pr tp gs ve vg p1 p2) vq (oL_isTold_3_vg ni li mi mv nx al nc nl ki fi se th size on il ba le wi pr tp gs ve vg p1 p2) := by
  obtain ⟨⟨iC, iG, iN, iS, iK0, iK, iH0, iH⟩, ⟨kA, kB⟩, ⟨hA, hB⟩, hc, ⟨hE, hTp⟩, hp, hg⟩ := h
  have hg' := hg
  obtain ⟨g0, g1, g2, g3, g4, g5, g6, g7, g8, g9, g10, g11, g12⟩ := hg'
  unfold rL_isTold_3 oL_isTold_3_size oL_isTold_3_ba oL_isTold_3_tp oL_isTold_3_ve oL_isTold_3_vg jL_isTold_3_775_0 jL_isTold_3_753_0 jL_isTold_3_698_0 jL_isTold_3_676_0
  have hF : jL_isTold_3_647_0 ni li mi mv nx al nc nl ki fi se th size on il ba le wi pr tp gs ve vg p1 p2 = if ni = 1 then 0 else 1 := by
    unfold jL_isTold_3_647_0
    rw [zN4, g4]
  by_cases hz : zRem p1 2 = 0
  · rw [if_pos hz, if_pos hz, if_pos hz, if_pos hz, if_pos hz, if_pos hz, hF, zN0, g0]
    by_cases q : ni = 1
    · have xs : xX7_tear ni li mi mv nx al nc nl ki fi se th size = 3 := by
        unfold xX7_tear
        rw [zNP3 q, if_neg z3n]
      rw [if_pos q, if_pos rfl, if_pos rfl]
      unfold rL_does_3 oL_does_3_size
      rw [xs, if_neg z3n, if_neg z3n, if_pos rfl]
      refine ⟨rfl, ⟨iC, iG, iN, iS, iK0, iK, iH0, iH⟩, ⟨kA, kB⟩, ⟨hA, hB⟩, hc, ⟨hE, hTp⟩, hp, ?_⟩
      refine ⟨zuE _ _ _, ?_, ?_, ?_, ?_, ?_, ?_, ?_, ?_, ?_, ?_, ?_, ?_⟩ <;> (rw [zuN _ _ (by decide)]; assumption)
    · have xs : xX7_tear ni li mi mv nx al nc nl ki fi se th size = 0 := by
        unfold xX7_tear
        rw [zNP0 q, if_pos rfl]
      have k1 := yk_3_0 (ni := ni) (li := li) (mi := mi) (mv := mv) (nx := nx) (al := al) (nc := nc) (nl := nl) 0 0 0 0 iC
      have k2 := yk_3_2 (li := li) (mi := mi) (mv := mv) (al := al) (nc := nc) (nl := nl) (ki := ki) (fi := fi) (se := se) (th := th) 0 0 0 0 iN
      have es : oL_does_3_size ni li mi mv nx al nc nl ki fi se th size 0 0 0 0 = 0 := by
        unfold oL_does_3_size
        rw [xs, if_pos rfl]
        rfl
      rw [es] at k1 k2
      rw [if_neg q, if_neg z10, if_neg z10, es]
      unfold rL_does_3
      rw [xs, if_pos rfl]
      unfold rX7_tear
      refine ⟨if_pos rfl, ⟨k1, iG, k2, iS, iK0, iK, iH0, iH⟩, ⟨kA, kB⟩, ⟨hA, hB⟩, hc, ⟨hE, hTp⟩, hp, ?_⟩
      refine ⟨zuE _ _ _, ?_, ?_, ?_, ?_, ?_, ?_, ?_, ?_, ?_, ?_, ?_, ?_⟩ <;> (rw [zuN _ _ (by decide)]; assumption)
  · rw [if_neg hz, if_neg hz, if_neg hz, if_neg hz, if_neg hz, if_neg hz, hF, zN2, g2]
    by_cases q : ni = 1
    · have xs : xL_travelled ni li mi mv nx al nc nl on il ba le wi pr tp gs = 3 := by
        unfold xL_travelled xX7_travel
        rw [zNP3 q, if_neg z3n, if_neg z3n]
      have hl : lL_isTold_3_710_ve1 ni li mi mv nx al nc nl ki fi se th size on il ba le wi pr tp gs ve vg p1 p2 7 ve 0 = ve := by
        rw [lL_isTold_3_710_ve1, if_neg (by decide), hF, if_pos q, if_pos rfl]
      rw [hl, if_pos q, if_pos rfl, if_pos rfl]
      unfold rL_does_6 oL_does_6_ba oL_does_6_tp
      rw [xs, if_neg z3n, if_neg z3n, if_neg z3n, if_pos rfl]
      refine ⟨rfl, ⟨iC, iG, iN, iS, iK0, iK, iH0, iH⟩, ⟨kA, kB⟩, ⟨hA, hB⟩, hc, ⟨hE, hTp⟩, hp, ?_⟩
      refine ⟨?_, ?_, zuE _ _ _, ?_, ?_, ?_, ?_, ?_, ?_, ?_, ?_, ?_, ?_⟩ <;> (rw [zuN _ _ (by decide)]; assumption)
    · have xs : xL_travelled ni li mi mv nx al nc nl on il ba le wi pr tp gs = 0 := by
        unfold xL_travelled xX7_travel
        rw [zNP0 q, if_pos rfl, if_pos rfl]
      have hn : ¬ jL_isTold_3_647_0 ni li mi mv nx al nc nl ki fi se th size on il ba le wi pr tp gs ve vg p1 p2 = 0 := by
        rw [hF, if_neg q]
        exact z10
      obtain ⟨a1, a2, a3⟩ := zL710 ni li mi mv nx al nc nl ki fi se th size on il ba le wi pr tp gs ve vg p1 p2 hn 7 ve 0 (by decide) (by decide)
      rw [if_neg q, if_neg z10, if_neg z10]
      unfold rL_does_6 oL_does_6_ba oL_does_6_tp
      rw [xs, if_pos rfl, if_pos rfl, if_pos rfl]
      unfold rL_travelled oL_travelled_ba oL_travelled_tp oX7_travel_ba oX7_travel_tp oX1_beFresh_tp oJ7_fill_53178_f
      refine ⟨if_pos rfl, ⟨iC, iG, iN, iS, iK0, iK, iH0, iH⟩, ⟨kA, kB⟩, ⟨hA, hB⟩, hc, ⟨?_, ?_⟩, hp, ?_⟩
      · intro j hj
        have c1 := iG.2.1
        rw [a1 j (by omega)]
        exact hE j hj
      · intro j hj
        have e0 : (0 : Int32).toInt = 0 := rfl
        rw [a3 j hj (by omega), zfill _ _ _ _ (by decide) (by decide) (fun j2 h2 => by omega) j hj]
        exact ⟨rfl, by omega, by omega⟩
      · refine ⟨?_, ?_, zuE _ _ _, ?_, ?_, ?_, ?_, ?_, ?_, ?_, ?_, ?_, ?_⟩ <;> (rw [zuN _ _ (by decide)]; assumption)
