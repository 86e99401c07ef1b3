/-! a night begins -/
theorem zL110 (ni : Int32)(li : Int32)(mi : Int32)(mv : Int32)(nx : Int32)(al : Int32)(nc : Int32)(nl : Int32)(ki : Nat → Int32)(fi : Nat → Int32)(se : Nat → Int32)(th : Nat → Int32)(size : Int32)(on : Int32)(il : Int32)(ba : Int32)(kn : Nat → Int32)(ho : Nat → Int32)(kb0 : Nat → Int32)(hb0 : Nat → Int32)(vk : Nat → Int32)(vh : Nat → Int32)(vg : Nat → Int32)(p1 : Int32) : ∀ (n : Nat) (v w : Nat → Int32) (i : Int32), 0 ≤ i.toInt → i.toInt ≤ 24 → 24 - i.toInt < n → (∀ j : Nat, j < 4 → (j : Int) < i.toInt → w (4 + j) = w j) →
    ((∀ j : Nat, j < 24 → lL_isNight_110_vk1 ni li mi mv nx al nc nl ki fi se th size on il ba kn ho kb0 hb0 vk vh vg p1 n v w i j = v j) ∧ (∀ j : Nat, j < 24 → (j : Int) < i.toInt → lL_isNight_110_vk1 ni li mi mv nx al nc nl ki fi se th size on il ba kn ho kb0 hb0 vk vh vg p1 n v w i (24 + j) = v (24 + j)) ∧ (∀ j : Nat, j < 24 → i.toInt ≤ j → lL_isNight_110_vk1 ni li mi mv nx al nc nl ki fi se th size on il ba kn ho kb0 hb0 vk vh vg p1 n v w i (24 + j) = v j)) ∧ ((∀ j : Nat, j < 4 → lL_isNight_110_vh1 ni li mi mv nx al nc nl ki fi se th size on il ba kn ho kb0 hb0 vk vh vg p1 n v w i j = w j) ∧ (∀ j : Nat, j < 4 → lL_isNight_110_vh1 ni li mi mv nx al nc nl ki fi se th size on il ba kn ho kb0 hb0 vk vh vg p1 n v w i (4 + j) = w j)) := by
  intro n
  induction n with
  | zero =>
    intro v w i h0 h1 h2
    omega
  | succ n ih =>
    intro v w i h0 h1 h2 hw
    rw [lL_isNight_110_vk1, lL_isNight_110_vh1]
    have e24 : (24 : Int32).toInt = 24 := rfl
    by_cases hc : (24 : Int32) ≤ i
    · rw [if_pos hc, if_pos hc]
      rw [Int32.le_iff_toInt_le] at hc
      exact ⟨⟨fun _ _ => rfl, fun _ _ _ => rfl, fun j hj h3 => by omega⟩, fun _ _ => rfl, fun j hj => hw j hj (by omega)⟩
    · rw [if_neg hc, if_neg hc]
      have hI := zInc hc
      have hi : vp_in i 24 := zin_c h0 hc (by decide)
      have hi2 := vp_in_iff.mp hi
      have en := zci hi
      have er := zrK (a := i) (b := 4) (n := 4) rfl h0 (by decide)
      have er2 := zci (zr4 hi)
      have er4 := zin_lt (zr4 hi)
      rw [zc24p hi, zc4p (zr4 hi)]
      obtain ⟨⟨a1, a2, a3⟩, b1, b2⟩ := ih (upd v (24 + i.toNatClampNeg) (v i.toNatClampNeg)) (upd w (4 + (zRem i (4 : Int32)).toNatClampNeg) (w (zRem i (4 : Int32)).toNatClampNeg)) (i + 1) (by omega) (by omega) (by omega) (fun j hj h3 => by
        rw [yupd32, yupd32]
        by_cases q : j = (zRem i (4 : Int32)).toNatClampNeg
        · rw [if_pos (by omega), if_neg (by omega), q]
        · rw [if_neg (by omega), if_neg (by omega)]
          exact hw j hj (by omega))
      refine ⟨⟨fun j hj => ?_, fun j hj h3 => ?_, fun j hj h3 => ?_⟩, fun j hj => ?_, fun j hj => ?_⟩
      · rw [a1 j hj, zuN _ _ (by omega)]
      · rw [a2 j hj (by omega), zuN _ _ (by omega)]
      · by_cases q : (j : Int) = i.toInt
        · rw [a2 j hj (by omega), show j = i.toNatClampNeg by omega, zuE]
        · rw [a3 j hj (by omega), zuN _ _ (by omega)]
      · rw [b1 j hj, zuN _ _ (by omega)]
      · rw [b2 j hj, zuN _ _ (by omega)]
set_option maxHeartbeats 2000000 in
theorem zT_N {N : Nat} {ni li mi mv nx al nc nl on il ba size : Int32} {ki fi se th kT hT kn ho kb0 hb0 : Nat → Int32} {gs : Int32} {le wi pr tp pt : Nat → Int32} {fr fb : Nat → Int64} {vk vh vc ve vq vg : Nat → Int32} (h : zRc N ni li mi mv nx al nc nl on il ba size ki fi se th kT hT kn ho kb0 hb0 gs le wi pr tp pt fr fb vk vh vc ve vq vg) (p1 : Int32) (h1 : 0 ≤ p1.toInt) : rL_isNight ni li mi mv nx al nc nl ki fi se th size on il ba kn ho kb0 hb0 vk vh vg p1 = 1 ∧ zRc N (oL_isNight_ni ni li mi mv nx al nc nl ki fi se th size on il ba kn ho kb0 hb0 vk vh vg p1) (oL_isNight_li ni li mi mv nx al nc nl ki fi se th size on il ba kn ho kb0 hb0 vk vh vg p1) (oL_isNight_mi ni li mi mv nx al nc nl ki fi se th size on il ba kn ho kb0 hb0 vk vh vg p1) (oL_isNight_mv ni li mi mv nx al nc nl ki fi se th size on il ba kn ho kb0 hb0 vk vh vg p1) (oL_isNight_nx ni li mi mv nx al nc nl ki fi se th size on il ba kn ho kb0 hb0 vk vh vg p1) al nc nl (oL_isNight_on ni li mi mv nx al nc nl ki fi se th size on il ba kn ho kb0 hb0 vk vh vg p1) il ba size ki fi se th kT hT (oL_isNight_kn ni li mi mv nx al nc nl ki fi se th size on il ba kn ho kb0 hb0 vk vh vg p1) (oL_isNight_ho ni li mi mv nx al nc nl ki fi se th size on il ba kn ho kb0 hb0 vk vh vg p1) kb0 hb0 gs le wi pr tp pt fr fb (oL_isNight_vk ni li mi mv nx al nc nl ki fi se th size on il ba kn ho kb0 hb0 vk vh vg p1) (oL_isNight_vh ni li mi mv nx al nc nl ki fi se th size on il ba kn ho kb0 hb0 vk vh vg p1) vc ve vq (oL_isNight_vg ni li mi mv nx al nc nl ki fi se th size on il ba kn ho kb0 hb0 vk vh vg p1) := by
  obtain ⟨⟨iC, iG, iN, iS, iK0, iK, iH0, iH⟩, ⟨kA, kB⟩, ⟨hA, hB⟩, hc, ⟨hE, hTp⟩, hp, hg⟩ := h
  have e0 : (0 : Int32).toInt = 0 := rfl
  have e1 : (1 : Int32).toInt = 1 := rfl
  have e20 : (20 : Int32).toInt = 20 := rfl
  have e100 : (100 : Int32).toInt = 100 := rfl
  have e101 : (101 : Int32).toInt = 101 := rfl
  have hl : vp_in (if zRem p1 9 = 0 then zRem (p1 / (9 : Int32)) 102 else ((20 : Int32) + zRem p1 60)) 102 := by
    by_cases q : zRem p1 9 = 0
    · rw [if_pos q]
      exact zrI _ 102 102 rfl (by decide) (zdv0 (n := 9) rfl (by decide) h1)
    · rw [if_neg q]
      have r := vp_in_iff.mp (zrI p1 60 60 rfl (by decide) h1)
      have e := zaT (a := 20) (b := zRem p1 60) (by omega) (by omega)
      exact zin_b (by omega) (by omega)
  have hg' := hg
  obtain ⟨g0, g1, g2, g3, g4, g5, g6, g7, g8, g9, g10, g11, g12⟩ := hg'
  have c0 := iC.1
  unfold rL_isNight oL_isNight_ni oL_isNight_li oL_isNight_mi oL_isNight_mv oL_isNight_nx oL_isNight_on oL_isNight_kn oL_isNight_ho oL_isNight_vk oL_isNight_vh oL_isNight_vg jL_isNight_180_0 jL_isNight_148_0 jL_isNight_148_1 jL_isNight_148_2 jL_isNight_71_0 jL_isNight_46_0 jL_isNight_27_0
  generalize hle : (if zRem p1 9 = 0 then zRem (p1 / (9 : Int32)) 102 else ((20 : Int32) + zRem p1 60)) = l at hl ⊢
  clear hle
  rw [zN4, g4, zN0, g0]
  have hl2 := vp_in_iff.mp hl
  have keep : ∀ x : Nat, xX7_night ni li mi mv nx al nc nl ki fi se th size on il ba kn ho kb0 hb0 l = x → ¬ x = 0 → (oL_does_9_ni ni li mi mv nx al nc nl ki fi se th size on il ba kn ho kb0 hb0 l 0 0 0 = ni ∧ oL_does_9_li ni li mi mv nx al nc nl ki fi se th size on il ba kn ho kb0 hb0 l 0 0 0 = li ∧ oL_does_9_mi ni li mi mv nx al nc nl ki fi se th size on il ba kn ho kb0 hb0 l 0 0 0 = mi ∧ oL_does_9_mv ni li mi mv nx al nc nl ki fi se th size on il ba kn ho kb0 hb0 l 0 0 0 = mv ∧ oL_does_9_nx ni li mi mv nx al nc nl ki fi se th size on il ba kn ho kb0 hb0 l 0 0 0 = nx ∧ oL_does_9_on ni li mi mv nx al nc nl ki fi se th size on il ba kn ho kb0 hb0 l 0 0 0 = on ∧ oL_does_9_kn ni li mi mv nx al nc nl ki fi se th size on il ba kn ho kb0 hb0 l 0 0 0 = kn ∧ oL_does_9_ho ni li mi mv nx al nc nl ki fi se th size on il ba kn ho kb0 hb0 l 0 0 0 = ho) := by
    intro x q1 q2
    unfold oL_does_9_ni oL_does_9_li oL_does_9_mi oL_does_9_mv oL_does_9_nx oL_does_9_on oL_does_9_kn oL_does_9_ho
    rw [yb9, q1]
    simp only [if_neg q2]
    exact ⟨trivial, trivial, trivial, trivial, trivial, trivial, trivial, trivial⟩
  have R0 : zRc N ni li mi mv nx al nc nl on il ba size ki fi se th kT hT kn ho kb0 hb0 gs le wi pr tp pt fr fb vk vh vc ve vq vg := ⟨⟨iC, iG, iN, iS, iK0, iK, iH0, iH⟩, ⟨kA, kB⟩, ⟨hA, hB⟩, hc, ⟨hE, hTp⟩, hp, hg⟩
  by_cases v : 1 ≤ l.toInt ∧ l.toInt ≤ 100
  · have f1 : ¬ l ≤ 0 := by
      rw [Int32.le_iff_toInt_le]
      omega
    have f2 : ¬ (101 : Int32) ≤ l := by
      rw [Int32.le_iff_toInt_le]
      omega
    have xs : xX7_night ni li mi mv nx al nc nl ki fi se th size on il ba kn ho kb0 hb0 l = if ni = 1 then 3 else if size = 0 then 3 else 0 := by
      unfold xX7_night
      rw [if_pos (zRg (by omega) (by omega))]
      by_cases q : ni = 1
      · rw [zNP3 q, if_neg z3n, if_pos q]
      · rw [zNP0 q, if_pos rfl, if_neg q]
    rw [if_neg f1, if_neg f2, if_neg z10, if_neg z10]
    by_cases q : ni = 1
    · rw [if_pos q] at xs
      obtain ⟨k1, k2, k3, k4, k5, k6, k7, k8⟩ := keep 3 xs z3n
      rw [k1, k2, k3, k4, k5, k6, k7, k8]
      simp only [if_pos q, if_true]
      refine ⟨?_, R0⟩
      unfold rL_does_9
      rw [yb9, xs, if_neg z3n, if_neg z32n, if_pos rfl]
    · rw [if_neg q] at xs
      by_cases r : size = 0
      · rw [if_pos r] at xs
        obtain ⟨k1, k2, k3, k4, k5, k6, k7, k8⟩ := keep 3 xs z3n
        rw [k1, k2, k3, k4, k5, k6, k7, k8]
        have r2 : size ≤ 0 := by
          rw [r]
          decide
        simp only [if_neg q, if_pos r2, if_true]
        refine ⟨?_, R0⟩
        unfold rL_does_9
        rw [yb9, xs, if_neg z3n, if_neg z32n, if_pos rfl]
      · rw [if_neg r] at xs
        have r2 : ¬ size ≤ 0 := by
          rw [Int32.le_iff_toInt_le]
          have h : size.toInt ≠ 0 := fun z => r (Int32.toInt_inj.mp (z.trans e0.symm))
          omega
        simp only [if_neg q, if_neg r2, if_neg z10]
        have i2 := yk_9_2 (li := li) (mi := mi) (mv := mv) (al := al) (nc := nc) (nl := nl) (on := on) (il := il) (ba := ba) (kn := kn) (ho := ho) (kb0 := kb0) (hb0 := hb0) l 0 0 0 iC iN
        have i3 := yk_9_3 (ni := ni) (li := li) (mi := mi) (mv := mv) (nx := nx) (al := al) (nc := nc) (nl := nl) (ba := ba) (size := size) (ki := ki) (fi := fi) (se := se) (th := th) (kn := kn) (ho := ho) (kb0 := kb0) (hb0 := hb0) l 0 0 0 iS
        have i5 := yk_9_5 (ni := ni) (li := li) (mi := mi) (mv := mv) (nx := nx) (al := al) (nc := nc) (nl := nl) (on := on) (il := il) (ba := ba) (size := size) (ki := ki) (fi := fi) (se := se) (th := th) (ho := ho) (hb0 := hb0) l 0 0 0 iK0 iK
        have i7 := yk_9_7 (ni := ni) (li := li) (mi := mi) (mv := mv) (nx := nx) (al := al) (nc := nc) (nl := nl) (on := on) (il := il) (ba := ba) (size := size) (ki := ki) (fi := fi) (se := se) (th := th) (kn := kn) (kb0 := kb0) l 0 0 0 iH0 iH
        have k : oL_does_9_ni ni li mi mv nx al nc nl ki fi se th size on il ba kn ho kb0 hb0 l 0 0 0 = 1 ∧ oL_does_9_li ni li mi mv nx al nc nl ki fi se th size on il ba kn ho kb0 hb0 l 0 0 0 = l ∧ oL_does_9_mi ni li mi mv nx al nc nl ki fi se th size on il ba kn ho kb0 hb0 l 0 0 0 = 0 ∧ oL_does_9_mv ni li mi mv nx al nc nl ki fi se th size on il ba kn ho kb0 hb0 l 0 0 0 = 0 ∧ oL_does_9_nx ni li mi mv nx al nc nl ki fi se th size on il ba kn ho kb0 hb0 l 0 0 0 = 0 ∧ oL_does_9_on ni li mi mv nx al nc nl ki fi se th size on il ba kn ho kb0 hb0 l 0 0 0 = 0 ∧ oL_does_9_kn ni li mi mv nx al nc nl ki fi se th size on il ba kn ho kb0 hb0 l 0 0 0 = va_cpy kb0 kn 0 0 4 ∧ oL_does_9_ho ni li mi mv nx al nc nl ki fi se th size on il ba kn ho kb0 hb0 l 0 0 0 = va_cpy hb0 ho 0 0 4 := by
          unfold oL_does_9_ni oL_does_9_li oL_does_9_mi oL_does_9_mv oL_does_9_nx oL_does_9_on oL_does_9_kn oL_does_9_ho
          rw [yb9, xs]
          exact ⟨rfl, rfl, rfl, rfl, rfl, rfl, rfl, rfl⟩
        obtain ⟨k1, k2, k3, k4, k5, k6, k7, k8⟩ := k
        rw [k1, k5] at i2
        rw [k6] at i3
        rw [k7] at i5
        rw [k8] at i7
        rw [k1, k2, k3, k4, k5, k6, k7, k8]
        obtain ⟨⟨a1, a2, a3⟩, b1, b2⟩ := zL110 ni li mi mv nx al nc nl ki fi se th size on il ba kn ho kb0 hb0 vk vh vg p1 25 vk vh 0 (by decide) (by decide) (by decide) (fun j _ h3 => by omega)
        refine ⟨?_, ⟨iC, iG, i2, i3, iK0, i5, iH0, i7⟩, ⟨?_, ?_⟩, ⟨?_, ?_⟩, hc, ⟨hE, hTp⟩, hp, ?_⟩
        · unfold rL_does_9
          rw [yb9, xs, if_pos rfl]
          exact if_pos rfl
        · intro m s hm hs
          rw [a1 _ (by omega)]
          exact kA m s hm hs
        · rw [if_neg z10]
          intro m s hm hs
          show zB (lL_isNight_110_vk1 ni li mi mv nx al nc nl ki fi se th size on il ba kn ho kb0 hb0 vk vh vg p1 25 vk vh 0 (24 + (4 * m + s))) (yi (va_cpy kb0 kn 0 0 4 s) m)
          rw [a3 _ (by omega) (by omega), ycp4 _ _ hs]
          exact kA m s hm hs
        · intro s hs
          rw [b1 _ hs]
          exact hA s hs
        · rw [if_neg z10]
          intro s hs
          show lL_isNight_110_vh1 ni li mi mv nx al nc nl ki fi se th size on il ba kn ho kb0 hb0 vk vh vg p1 25 vk vh 0 (4 + s) = va_cpy hb0 ho 0 0 4 s + 1
          rw [b2 _ hs, ycp4 _ _ hs]
          exact hA s hs
        · rw [zN5, zN6, zN7, zN8, zN9]
          refine ⟨?_, ?_, ?_, ?_, ?_, ?_, ?_, ?_, ?_, ?_, ?_, ?_, ?_⟩ <;> simp only [yupd32] <;> first | rfl | (simp; assumption)
  · have f0 : (if l ≤ 0 then (0 : Int32) else (if (101 : Int32) ≤ l then 0 else 1)) = 0 := by
      by_cases f1 : l ≤ 0
      · rw [if_pos f1]
      · rw [if_neg f1]
        by_cases f2 : (101 : Int32) ≤ l
        · rw [if_pos f2]
        · rw [Int32.le_iff_toInt_le] at f1 f2
          exact absurd ⟨by omega, by omega⟩ v
    have xs : xX7_night ni li mi mv nx al nc nl ki fi se th size on il ba kn ho kb0 hb0 l = 2 := by
      unfold xX7_night
      rw [zRg2 (fun q => v ⟨by omega, by omega⟩), if_neg z2n]
    obtain ⟨k1, k2, k3, k4, k5, k6, k7, k8⟩ := keep 2 xs z2n
    rw [k1, k2, k3, k4, k5, k6, k7, k8]
    simp only [f0, if_true]
    refine ⟨?_, R0⟩
    unfold rL_does_9
    rw [yb9, xs, if_neg z2n, if_pos rfl, if_pos rfl]
