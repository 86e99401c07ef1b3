/-! moves: a secret is told -/
set_option maxHeartbeats 4000000 in
theorem zT_m4 {N : Nat} {ni li mi mv nx al nc nl on il ba size : Int32} {ki fi se th kT hT kn ho kb0 hb0 : Nat → Int32} {gs : Int32} {le wi pr tp pt : Nat → Int32} {fr fb : Nat → Int64} {vk vh vc ve vq vg : Nat → Int32} (h : zRc N ni li mi mv nx al nc nl on il ba size ki fi se th kT hT kn ho kb0 hb0 gs le wi pr tp pt fr fb vk vh vc ve vq vg) (p1 : Int32) (p2 : Int32) (h1 : 0 ≤ p1.toInt) (h2 : 0 ≤ p2.toInt) : (¬ (jL_isMove_4_13_0 ni li mi mv nx al nc nl ki fi se th size on il ba kT hT kn ho vk vh vc vg p1 p2) = 0 → vp_in (vg ((7 : Int32)).toNatClampNeg) 13) ∧ ((3 : Int32) ≤ (4 : Int32) → ¬ (4 : Int32) = (3 : Int32) → ¬ (6 : Int32) ≤ (4 : Int32) → ¬ (jL_isMove_4_510_0 ni li mi mv nx al nc nl ki fi se th size on il ba kT hT kn ho vk vh vc vg p1 p2) = 0 → ¬ (jL_isMove_4_524_0 ni li mi mv nx al nc nl ki fi se th size on il ba kT hT kn ho vk vh vc vg p1 p2) = 0 → ¬ (jL_isMove_4_13_0 ni li mi mv nx al nc nl ki fi se th size on il ba kT hT kn ho vk vh vc vg p1 p2) = 0 → ¬ (jL_isMove_4_181_0 ni li mi mv nx al nc nl ki fi se th size on il ba kT hT kn ho vk vh vc vg p1 p2) = 0 → ¬ (rL_isIn (vg ((9 : Int32)).toNatClampNeg) (jL_isMove_4_114_0 ni li mi mv nx al nc nl ki fi se th size on il ba kT hT kn ho vk vh vc vg p1 p2)) = 0 → vp_in (((24 : Int32) + ((4 : Int32) * (jL_isMove_4_88_0 ni li mi mv nx al nc nl ki fi se th size on il ba kT hT kn ho vk vh vc vg p1 p2))) + (jL_isMove_4_154_0 ni li mi mv nx al nc nl ki fi se th size on il ba kT hT kn ho vk vh vc vg p1 p2)) 49) ∧ ((3 : Int32) ≤ (4 : Int32) → ¬ (4 : Int32) = (3 : Int32) → ¬ (6 : Int32) ≤ (4 : Int32) → ¬ (jL_isMove_4_584_0 ni li mi mv nx al nc nl ki fi se th size on il ba kT hT kn ho vk vh vc vg p1 p2) = 0 → (jL_isMove_4_31_0 ni li mi mv nx al nc nl ki fi se th size on il ba kT hT kn ho vk vh vc vg p1 p2) = ((((8 : Int32) * (jL_isMove_4_88_0 ni li mi mv nx al nc nl ki fi se th size on il ba kT hT kn ho vk vh vc vg p1 p2)) + ((64 : Int32) * (jL_isMove_4_114_0 ni li mi mv nx al nc nl ki fi se th size on il ba kT hT kn ho vk vh vc vg p1 p2))) + ((512 : Int32) * (jL_isMove_4_154_0 ni li mi mv nx al nc nl ki fi se th size on il ba kT hT kn ho vk vh vc vg p1 p2))) → vp_in (((24 : Int32) + ((4 : Int32) * (jL_isMove_4_114_0 ni li mi mv nx al nc nl ki fi se th size on il ba kT hT kn ho vk vh vc vg p1 p2))) + (jL_isMove_4_154_0 ni li mi mv nx al nc nl ki fi se th size on il ba kT hT kn ho vk vh vc vg p1 p2)) 49) ∧ ((3 : Int32) ≤ (4 : Int32) → ¬ (4 : Int32) = (3 : Int32) → ¬ (6 : Int32) ≤ (4 : Int32) → ¬ (jL_isMove_4_584_0 ni li mi mv nx al nc nl ki fi se th size on il ba kT hT kn ho vk vh vc vg p1 p2) = 0 → 0 ≤ (vg ((7 : Int32)).toNatClampNeg).toInt) ∧ ((3 : Int32) ≤ (4 : Int32) → ¬ (4 : Int32) = (3 : Int32) → ¬ (6 : Int32) ≤ (4 : Int32) → ¬ (jL_isMove_4_584_0 ni li mi mv nx al nc nl ki fi se th size on il ba kT hT kn ho vk vh vc vg p1 p2) = 0 → vp_in (((24 : Int32) + ((4 : Int32) * (jL_isMove_4_114_0 ni li mi mv nx al nc nl ki fi se th size on il ba kT hT kn ho vk vh vc vg p1 p2))) + (jL_isMove_4_154_0 ni li mi mv nx al nc nl ki fi se th size on il ba kT hT kn ho vk vh vc vg p1 p2)) 49) ∧ ((3 : Int32) ≤ (4 : Int32) → ¬ (4 : Int32) = (3 : Int32) → ¬ (6 : Int32) ≤ (4 : Int32) → ¬ (jL_isMove_4_584_0 ni li mi mv nx al nc nl ki fi se th size on il ba kT hT kn ho vk vh vc vg p1 p2) = 0 → vp_in (((24 : Int32) + ((4 : Int32) * (jL_isMove_4_114_0 ni li mi mv nx al nc nl ki fi se th size on il ba kT hT kn ho vk vh vc vg p1 p2))) + (jL_isMove_4_154_0 ni li mi mv nx al nc nl ki fi se th size on il ba kT hT kn ho vk vh vc vg p1 p2)) 49) ∧ ((3 : Int32) ≤ (4 : Int32) → ¬ (4 : Int32) = (3 : Int32) → ¬ (6 : Int32) ≤ (4 : Int32) → ¬ (jL_isMove_4_584_0 ni li mi mv nx al nc nl ki fi se th size on il ba kT hT kn ho vk vh vc vg p1 p2) = 0 → ¬ (rL_closes vk vh vc vg (vg ((7 : Int32)).toNatClampNeg)) = 0 → 0 ≤ ((vg ((7 : Int32)).toNatClampNeg) + (jL_isMove_4_735_0 ni li mi mv nx al nc nl ki fi se th size on il ba kT hT kn ho vk vh vc vg p1 p2)).toInt) ∧ ((3 : Int32) ≤ (4 : Int32) → ¬ (4 : Int32) = (3 : Int32) → ¬ (6 : Int32) ≤ (4 : Int32) → ¬ (jL_isMove_4_584_0 ni li mi mv nx al nc nl ki fi se th size on il ba kT hT kn ho vk vh vc vg p1 p2) = 0 → vp_in (((24 : Int32) + ((4 : Int32) * (jL_isMove_4_114_0 ni li mi mv nx al nc nl ki fi se th size on il ba kT hT kn ho vk vh vc vg p1 p2))) + (jL_isMove_4_154_0 ni li mi mv nx al nc nl ki fi se th size on il ba kT hT kn ho vk vh vc vg p1 p2)) 49) ∧ rL_isMove_4 ni li mi mv nx al nc nl ki fi se th size on il ba kT hT kn ho vk vh vc vg p1 p2 = 1 ∧ zRc (N + 1) (oL_isMove_4_ni ni li mi mv nx al nc nl ki fi se th size on il ba kT hT kn ho vk vh vc vg p1 p2) li (oL_isMove_4_mi ni li mi mv nx al nc nl ki fi se th size on il ba kT hT kn ho vk vh vc vg p1 p2) (oL_isMove_4_mv ni li mi mv nx al nc nl ki fi se th size on il ba kT hT kn ho vk vh vc vg p1 p2) (oL_isMove_4_nx ni li mi mv nx al nc nl ki fi se th size on il ba kT hT kn ho vk vh vc vg p1 p2) al (oL_isMove_4_nc ni li mi mv nx al nc nl ki fi se th size on il ba kT hT kn ho vk vh vc vg p1 p2) (oL_isMove_4_nl ni li mi mv nx al nc nl ki fi se th size on il ba kT hT kn ho vk vh vc vg p1 p2) on il ba size ki fi se th (oL_isMove_4_kT ni li mi mv nx al nc nl ki fi se th size on il ba kT hT kn ho vk vh vc vg p1 p2) (oL_isMove_4_hT ni li mi mv nx al nc nl ki fi se th size on il ba kT hT kn ho vk vh vc vg p1 p2) (oL_isMove_4_kn ni li mi mv nx al nc nl ki fi se th size on il ba kT hT kn ho vk vh vc vg p1 p2) ho kb0 hb0 gs le wi pr tp pt fr fb (oL_isMove_4_vk ni li mi mv nx al nc nl ki fi se th size on il ba kT hT kn ho vk vh vc vg p1 p2) vh vc ve vq (oL_isMove_4_vg ni li mi mv nx al nc nl ki fi se th size on il ba kT hT kn ho vk vh vc vg p1 p2) := by
  obtain ⟨⟨iC, iG, iN, iS, iK0, iK, iH0, iH⟩, ⟨kA, kB⟩, ⟨hA, hB⟩, hc, ⟨hE, hTp⟩, hp, hg⟩ := h
  have hTp := zJt_le hTp (Nat.le_succ N)
  have hg' := hg
  obtain ⟨g0, g1, g2, g3, g4, g5, g6, g7, g8, g9, g10, g11, g12⟩ := hg'
  obtain ⟨aA, aB, aW, aP, aS, aI⟩ := zArgs hg hc iC iN (p1 := p1) (p2 := p2) h1
  have c0 := iC.1
  have c1 := iC.2.1
  have h26 : ¬ zPL vg = 0 → vp_in (vg ((7 : Int32)).toNatClampNeg) 13 := by
    intro q
    have r : ni = 1 := Classical.byContradiction (fun r => q (aP.mpr r))
    obtain ⟨n0, n1⟩ := iN r
    rw [zN7, g7]
    exact zin_b n0 (by omega)
  have R0 : zRc (N + 1) ni li mi mv nx al nc nl on il ba size ki fi se th kT hT kn ho kb0 hb0 gs le wi pr tp pt fr fb vk vh vc ve vq vg := ⟨⟨iC, iG, iN, iS, iK0, iK, iH0, iH⟩, ⟨kA, kB⟩, ⟨hA, hB⟩, hc, ⟨hE, hTp⟩, hp, hg⟩
  unfold rL_isMove_4 oL_isMove_4_kn oL_isMove_4_kT oL_isMove_4_hT oL_isMove_4_ni oL_isMove_4_mi oL_isMove_4_mv oL_isMove_4_nx oL_isMove_4_nc oL_isMove_4_nl oL_isMove_4_vk oL_isMove_4_vg jL_isMove_4_793_0 jL_isMove_4_793_1 jL_isMove_4_763_0 jL_isMove_4_747_0 jL_isMove_4_735_0 jL_isMove_4_682_0 jL_isMove_4_626_0 jL_isMove_4_584_0 jL_isMove_4_510_0 jL_isMove_4_524_0
  have e88 : jL_isMove_4_88_0 ni li mi mv nx al nc nl ki fi se th size on il ba kT hT kn ho vk vh vc vg p1 p2 = zAa vg vc p1 p2 := rfl
  have e114 : jL_isMove_4_114_0 ni li mi mv nx al nc nl ki fi se th size on il ba kT hT kn ho vk vh vc vg p1 p2 = zBb vg vc p1 p2 := rfl
  have e154 : jL_isMove_4_154_0 ni li mi mv nx al nc nl ki fi se th size on il ba kT hT kn ho vk vh vc vg p1 p2 = zWw vg vc p1 p2 := rfl
  have e13 : jL_isMove_4_13_0 ni li mi mv nx al nc nl ki fi se th size on il ba kT hT kn ho vk vh vc vg p1 p2 = zPL vg := rfl
  have e31 : jL_isMove_4_31_0 ni li mi mv nx al nc nl ki fi se th size on il ba kT hT kn ho vk vh vc vg p1 p2 = zST vg vc := rfl
  have e181 : jL_isMove_4_181_0 ni li mi mv nx al nc nl ki fi se th size on il ba kT hT kn ho vk vh vc vg p1 p2 = zSA vg vc p1 p2 := rfl
  have e50 : jL_isMove_4_50_0 ni li mi mv nx al nc nl ki fi se th size on il ba kT hT kn ho vk vh vc vg p1 p2 = zNE vg p2 := rfl
  simp only [e88, e114, e154, e13, e31, e181, e50]
  clear e88 e114 e154 e13 e31 e181 e50
  generalize zAa vg vc p1 p2 = a at aA aI ⊢
  generalize zBb vg vc p1 p2 = b at aB ⊢
  generalize zWw vg vc p1 p2 = w at aW ⊢
  generalize zSA vg vc p1 p2 = sa at aI ⊢
  generalize zST vg vc = st at aS ⊢
  rw [zN9, g9, zN2, g2, zLI, zLI, zN7, g7]
  have keep : ∀ n9 : Nat, xX7_tell ni li mi mv nx al nc nl ki fi se th size on il ba kT hT kn ho a b w = n9 → ¬ n9 = 0 → (oL_does_12_kn ni li mi mv nx al nc nl ki fi se th size on il ba kT hT kn ho a b w 0 = kn ∧ oL_does_12_kT ni li mi mv nx al nc nl ki fi se th size on il ba kT hT kn ho a b w 0 = kT ∧ oL_does_12_hT ni li mi mv nx al nc nl ki fi se th size on il ba kT hT kn ho a b w 0 = hT ∧ oL_does_12_ni ni li mi mv nx al nc nl ki fi se th size on il ba kT hT kn ho a b w 0 = ni ∧ oL_does_12_mi ni li mi mv nx al nc nl ki fi se th size on il ba kT hT kn ho a b w 0 = mi ∧ oL_does_12_mv ni li mi mv nx al nc nl ki fi se th size on il ba kT hT kn ho a b w 0 = mv ∧ oL_does_12_nx ni li mi mv nx al nc nl ki fi se th size on il ba kT hT kn ho a b w 0 = nx ∧ oL_does_12_nc ni li mi mv nx al nc nl ki fi se th size on il ba kT hT kn ho a b w 0 = nc ∧ oL_does_12_nl ni li mi mv nx al nc nl ki fi se th size on il ba kT hT kn ho a b w 0 = nl) := by
    intro n9 q1 q2
    unfold oL_does_12_kn oL_does_12_kT oL_does_12_hT oL_does_12_ni oL_does_12_mi oL_does_12_mv oL_does_12_nx oL_does_12_nc oL_does_12_nl
    rw [q1]
    simp only [if_neg q2]
    exact ⟨trivial, trivial, trivial, trivial, trivial, trivial, trivial, trivial, trivial⟩
  have hF1 : ¬ (if (6 : Int32) ≤ a then (0 : Int32) else (if (4 : Int32) ≤ w then (0 : Int32) else (1 : Int32))) = 0 → vp_in a 6 ∧ vp_in w 4 := by
    intro f
    rcases aA with rfl | ra
    · exact absurd (if_pos (by decide)) f
    · rcases aW with rfl | rw_
      · exfalso
        apply f
        rw [if_pos (show (4 : Int32) ≤ 4 by decide)]
        split <;> rfl
      · exact ⟨ra, rw_⟩
  have hCN : ¬ (if (if (6 : Int32) ≤ a then (0 : Int32) else (if (4 : Int32) ≤ w then (0 : Int32) else (1 : Int32))) = 0 then (0 : Int32) else (if (if a = b then (0 : Int32) else (1 : Int32)) = 0 then (0 : Int32) else (if zPL vg = 0 then (0 : Int32) else (if sa = 0 then (0 : Int32) else (if rX7_isIn on b = 0 then (0 : Int32) else (if (vk ((((24 : Int32) + ((4 : Int32) * a)) + w)).toNatClampNeg) = (1 : Int32) then (if rX7_isIn ba w = 0 then (1 : Int32) else (0 : Int32)) else (0 : Int32))))))) = 0 → (vp_in a 6 ∧ vp_in w 4) ∧ ¬ a = b ∧ ni = 1 ∧ ¬ rX7_isIn on a = 0 ∧ ¬ rX7_isIn on b = 0 ∧ yi (kn w.toNatClampNeg) a.toNatClampNeg ∧ rX7_isIn ba w = 0 := by
    intro f
    by_cases f1 : (if (6 : Int32) ≤ a then (0 : Int32) else (if (4 : Int32) ≤ w then (0 : Int32) else (1 : Int32))) = 0
    · rw [if_pos f1] at f
      exact absurd rfl f
    rw [if_neg f1] at f
    obtain ⟨ra, rw_⟩ := hF1 f1
    by_cases v2 : a = b
    · rw [if_pos v2, if_pos rfl] at f
      exact absurd rfl f
    rw [if_neg v2, if_neg z10] at f
    by_cases hpl : zPL vg = 0
    · rw [if_pos hpl] at f
      exact absurd rfl f
    rw [if_neg hpl] at f
    have q : ni = 1 := Classical.byContradiction (fun r => hpl (aP.mpr r))
    by_cases hsa : sa = 0
    · rw [if_pos hsa] at f
      exact absurd rfl f
    rw [if_neg hsa] at f
    have v3 : ¬ rX7_isIn on a = 0 := fun r => hsa (aI.mpr (Or.inr r))
    by_cases v4 : rX7_isIn on b = 0
    · rw [if_pos v4] at f
      exact absurd rfl f
    rw [if_neg v4, zc24m ra rw_] at f
    have q0 : ¬ ni = 0 := by
      rw [q]
      exact z10
    rw [if_neg q0] at kB
    have w1 : vk (24 + (4 * a.toNatClampNeg + w.toNatClampNeg)) = 1 ↔ yi (kn w.toNatClampNeg) a.toNatClampNeg := zB1 (kB _ _ (zin_lt ra) (zin_lt rw_))
    by_cases v5 : vk (24 + (4 * a.toNatClampNeg + w.toNatClampNeg)) = 1
    · rw [if_pos v5] at f
      by_cases v6 : rX7_isIn ba w = 0
      · exact ⟨⟨ra, rw_⟩, v2, q, v3, v4, w1.mp v5, v6⟩
      · rw [if_neg v6] at f
        exact absurd rfl f
    · rw [if_neg v5] at f
      exact absurd rfl f
  have hCN2 : vp_in a 6 → vp_in w 4 → ¬ a = b → ni = 1 → ¬ rX7_isIn on a = 0 → ¬ rX7_isIn on b = 0 → yi (kn w.toNatClampNeg) a.toNatClampNeg → rX7_isIn ba w = 0 → (if (if (6 : Int32) ≤ a then (0 : Int32) else (if (4 : Int32) ≤ w then (0 : Int32) else (1 : Int32))) = 0 then (0 : Int32) else (if (if a = b then (0 : Int32) else (1 : Int32)) = 0 then (0 : Int32) else (if zPL vg = 0 then (0 : Int32) else (if sa = 0 then (0 : Int32) else (if rX7_isIn on b = 0 then (0 : Int32) else (if (vk ((((24 : Int32) + ((4 : Int32) * a)) + w)).toNatClampNeg) = (1 : Int32) then (if rX7_isIn ba w = 0 then (1 : Int32) else (0 : Int32)) else (0 : Int32))))))) = 1 := by
    intro ra rw_ v2 q v3 v4 v5 v6
    have q0 : ¬ ni = 0 := by
      rw [q]
      exact z10
    rw [if_neg q0] at kB
    have w1 : vk (24 + (4 * a.toNatClampNeg + w.toNatClampNeg)) = 1 ↔ yi (kn w.toNatClampNeg) a.toNatClampNeg := zB1 (kB _ _ (zin_lt ra) (zin_lt rw_))
    rw [if_neg (znle ra (c := 6) rfl), if_neg (znle rw_ (c := 4) rfl), if_neg z10, if_neg v2, if_neg z10, if_neg (fun r => (aP.mp r) q), if_neg (fun r => (aI.mp r).elim (zvne ra rfl) v3), if_neg v4, zc24m ra rw_, if_pos (w1.mpr v5), if_pos v6]
  have h26' : ¬ zPL vg = 0 → vp_in nx 13 := fun q => by
    have z := h26 q
    rw [zN7, g7] at z
    exact z
  refine ⟨h26', ?_⟩
  generalize hcn : (if (if (6 : Int32) ≤ a then (0 : Int32) else (if (4 : Int32) ≤ w then (0 : Int32) else (1 : Int32))) = 0 then (0 : Int32) else (if (if a = b then (0 : Int32) else (1 : Int32)) = 0 then (0 : Int32) else (if zPL vg = 0 then (0 : Int32) else (if sa = 0 then (0 : Int32) else (if rX7_isIn on b = 0 then (0 : Int32) else (if (vk ((((24 : Int32) + ((4 : Int32) * a)) + w)).toNatClampNeg) = (1 : Int32) then (if rX7_isIn ba w = 0 then (1 : Int32) else (0 : Int32)) else (0 : Int32))))))) = cn at hCN hCN2 ⊢
  refine ⟨?_, ?_, ?_, ?_, ?_, ?_, ?_, ?_⟩
  · intro _ _ _ f1 _ _ _ _
    exact zi24m (hF1 f1).1 (hF1 f1).2
  · intro _ _ _ f _
    exact zi24m aB (hCN f).1.2
  · intro _ _ _ f
    exact (iN (hCN f).2.2.1).1
  · intro _ _ _ f
    exact zi24m aB (hCN f).1.2
  · intro _ _ _ f
    exact zi24m aB (hCN f).1.2
  · intro _ _ _ f _
    obtain ⟨n0, n1⟩ := iN (hCN f).2.2.1
    have hI := zInc (x := nx) (y := size) (by rw [Int32.le_iff_toInt_le]; omega)
    repeat' split
    all_goals first | omega | (rw [Int32.add_zero]; exact n0)
  · intro _ _ _ f
    exact zi24m aB (hCN f).1.2
  by_cases hc0 : cn = 0
  · have xs : xX7_tell ni li mi mv nx al nc nl ki fi se th size on il ba kT hT kn ho a b w = (if (if (6 : Int32) ≤ a then (0 : Int32) else (if (4 : Int32) ≤ w then (0 : Int32) else (1 : Int32))) = 0 then 1 else (if (if a = b then (0 : Int32) else (1 : Int32)) = 0 then 2 else 3)) := by
      unfold xX7_tell
      by_cases f1 : (if (6 : Int32) ≤ a then (0 : Int32) else (if (4 : Int32) ≤ w then (0 : Int32) else (1 : Int32))) = 0
      · rw [if_pos f1]
        rcases aA with rfl | ra
        · rw [zM6, if_neg z1n]
        · rcases aW with rfl | rw_
          · rw [if_pos (zMk ra), if_pos (zMk aB), zS4, if_neg z1n]
          · rw [if_neg (znle ra (c := 6) rfl), if_neg (znle rw_ (c := 4) rfl)] at f1
            exact absurd f1 z10
      · rw [if_neg f1]
        obtain ⟨ra, rw_⟩ := hF1 f1
        rw [if_pos (zMk ra), if_pos (zMk aB), if_pos (zSk rw_)]
        by_cases v2 : a = b
        · rw [zUn2 v2, if_neg z2n, if_pos v2, if_pos rfl]
        · rw [if_pos (zUn0 v2), if_neg v2, if_neg z10]
          by_cases q : ni = 1
          · rw [if_pos (zPL0 q)]
            by_cases v3 : rX7_isIn on a = 0
            · rw [zOn3 v3, if_neg z3n]
            · rw [if_pos (zOn0 v3)]
              by_cases v4 : rX7_isIn on b = 0
              · rw [zOn3 v4, if_neg z3n]
              · rw [if_pos (zOn0 v4)]
                unfold rX2_isKnower
                by_cases v5 : rX7_isIn (kn w.toNatClampNeg) a = 0
                · rw [if_pos v5]
                · rw [if_neg v5]
                  by_cases v6 : rX7_isIn ba w = 0
                  · have z := hCN2 ra rw_ v2 q v3 v4 (Classical.byContradiction (fun r => v5 ((yi_is0 ra).mpr r))) v6
                    rw [hc0] at z
                    exact absurd z.symm z10
                  · rw [if_neg v6]
          · rw [zPL3 q, if_neg z3n]
    simp only [if_pos hc0]
    by_cases f1 : (if (6 : Int32) ≤ a then (0 : Int32) else (if (4 : Int32) ≤ w then (0 : Int32) else (1 : Int32))) = 0
    · rw [if_pos f1] at xs
      obtain ⟨k0, k1, k2, k3, k4, k5, k6, k7, k8⟩ := keep 1 xs z1n
      rw [k0, k1, k2, k3, k4, k5, k6, k7, k8]
      simp only [if_pos f1]
      refine ⟨?_, R0⟩
      unfold rL_does_12
      rw [xs, if_neg z1n, if_pos rfl, if_pos rfl]
    · rw [if_neg f1] at xs
      by_cases f2 : (if a = b then (0 : Int32) else (1 : Int32)) = 0
      · rw [if_pos f2] at xs
        obtain ⟨k0, k1, k2, k3, k4, k5, k6, k7, k8⟩ := keep 2 xs z2n
        rw [k0, k1, k2, k3, k4, k5, k6, k7, k8]
        simp only [if_neg f1, if_pos f2]
        refine ⟨?_, R0⟩
        unfold rL_does_12
        rw [xs, if_neg z2n, if_neg z21n, if_pos rfl, if_pos rfl]
      · rw [if_neg f2] at xs
        obtain ⟨k0, k1, k2, k3, k4, k5, k6, k7, k8⟩ := keep 3 xs z3n
        rw [k0, k1, k2, k3, k4, k5, k6, k7, k8]
        simp only [if_neg f1, if_neg f2]
        refine ⟨?_, R0⟩
        unfold rL_does_12
        rw [xs, if_neg z3n, if_neg z31n, if_neg z32n, if_pos rfl]
  · obtain ⟨⟨ra, rw_⟩, v2, q, v3, v4, v5, v6⟩ := hCN hc0
    simp only [if_neg hc0]
    have hlw := zin_lt rw_
    have q0 : ¬ ni = 0 := by
      rw [q]
      exact z10
    rw [if_neg q0] at kB hB
    obtain ⟨n0, n1⟩ := iN q
    have hsz : ¬ size ≤ nx := by
      rw [Int32.le_iff_toInt_le]
      omega
    have hn : nx.toNatClampNeg < 12 := by
      have e := zcn n0
      omega
    have iC' := iC
    obtain ⟨_, _, r2, r3, r4, r5, r6⟩ := iC'
    have hI := zInc hsz
    have ka : ¬ rX7_isIn (kn w.toNatClampNeg) a = 0 := fun r => ((yi_is0 ra).mp r) v5
    have xs : xX7_tell ni li mi mv nx al nc nl ki fi se th size on il ba kT hT kn ho a b w = 0 := by
      unfold xX7_tell rX2_isKnower
      rw [if_pos (zMk ra), if_pos (zMk aB), if_pos (zSk rw_), if_pos (zUn0 v2), if_pos (zPL0 q), if_pos (zOn0 v3), if_pos (zOn0 v4), if_neg ka, if_pos v6]
    have w0 : vk (24 + (4 * b.toNatClampNeg + w.toNatClampNeg)) = 0 ↔ ¬ yi (kn w.toNatClampNeg) b.toNatClampNeg := zB0 (kB _ _ (zin_lt aB) hlw)
    have w1 : vk (24 + (4 * b.toNatClampNeg + w.toNatClampNeg)) = 1 ↔ yi (kn w.toNatClampNeg) b.toNatClampNeg := zB1 (kB _ _ (zin_lt aB) hlw)
    have ib := yi_is0 (x := kn w.toNatClampNeg) aB
    have hg0 : vg ((0 : Int32)).toNatClampNeg = size := by rw [zN0, g0]
    have hg1 : vg ((1 : Int32)).toNatClampNeg = il := by rw [zN1, g1]
    have hg2 : vg ((2 : Int32)).toNatClampNeg = ba := by rw [zN2, g2]
    have CC := fun (kT' hT' : Nat → Int32) => zCC vk vh vc vg ki fi se th kT' hT' kn ho size on il ba nx hg0 hg1 hg2 c1 hc r2 r3 r4 r5 n0 kB hB iK.1 iH.1
    rw [zc24m aB rw_]
    by_cases kb : yi (kn w.toNatClampNeg) b.toNatClampNeg
    · have vkp := w1.mpr kb
      have vk0 : ¬ vk (24 + (4 * b.toNatClampNeg + w.toNatClampNeg)) = 0 := fun r => (w0.mp r) kb
      have same : upd vk (24 + (4 * b.toNatClampNeg + w.toNatClampNeg)) (1 : Int32) = vk := by
        rw [← vkp, zUpS]
      have eN : (if st = ((((8 : Int32) * a) + ((64 : Int32) * b)) + ((512 : Int32) * w)) then (if vk (24 + (4 * b.toNatClampNeg + w.toNatClampNeg)) = 0 then (1 : Int32) else (0 : Int32)) else (0 : Int32)) = 0 := by
        rw [if_neg vk0]
        split <;> rfl
      simp only [same, eN, if_true, Int32.add_zero]
      have eB : (if rL_closes vk vh vc vg nx = 0 then (0 : Int32) else (if rL_closes vk vh vc vg nx = 0 then (1 : Int32) else (0 : Int32))) = 0 := by
        by_cases z : rL_closes vk vh vc vg nx = 0
        · rw [if_pos z]
        · rw [if_neg z, if_neg z]
      simp only [eB, if_true, same]
      have j90 : jX7_tell_90_0 ni li mi mv nx al nc nl ki fi se th size on il ba kT hT kn ho a b w = 0 := by
        unfold jX7_tell_90_0 rX2_isKnower
        rw [if_neg (fun r => (ib.mp r) kb)]
      have j120 : jX7_tell_120_0 ni li mi mv nx al nc nl ki fi se th size on il ba kT hT kn ho a b w = 0 := by
        unfold jX7_tell_120_0
        rw [if_pos j90]
      obtain ⟨M1, M2⟩ := zMV ki fi se th hg q n0 n1 c1 (d := 0) (Or.inl rfl)
      have k : oL_does_12_kn ni li mi mv nx al nc nl ki fi se th size on il ba kT hT kn ho a b w 0 = kn ∧ oL_does_12_ni ni li mi mv nx al nc nl ki fi se th size on il ba kT hT kn ho a b w 0 = oX7_endMove_ni ni li mi mv nx al nc nl ki fi se th size 0 ∧ oL_does_12_mi ni li mi mv nx al nc nl ki fi se th size on il ba kT hT kn ho a b w 0 = oX7_endMove_mi ni li mi mv nx al nc nl ki fi se th size 0 ∧ oL_does_12_mv ni li mi mv nx al nc nl ki fi se th size on il ba kT hT kn ho a b w 0 = oX7_endMove_mv ni li mi mv nx al nc nl ki fi se th size 0 ∧ oL_does_12_nx ni li mi mv nx al nc nl ki fi se th size on il ba kT hT kn ho a b w 0 = oX7_endMove_nx ni li mi mv nx al nc nl ki fi se th size 0 ∧ oL_does_12_nc ni li mi mv nx al nc nl ki fi se th size on il ba kT hT kn ho a b w 0 = oX7_endMove_nc ni li mi mv nx al nc nl ki fi se th size 0 ∧ oL_does_12_nl ni li mi mv nx al nc nl ki fi se th size on il ba kT hT kn ho a b w 0 = oX7_endMove_nl ni li mi mv nx al nc nl ki fi se th size 0 := by
        unfold oL_does_12_kn oL_does_12_ni oL_does_12_mi oL_does_12_mv oL_does_12_nx oL_does_12_nc oL_does_12_nl oX7_tell_kn oX7_tell_ni oX7_tell_mi oX7_tell_mv oX7_tell_nx oX7_tell_nc oX7_tell_nl
        rw [xs, j90, j120]
        refine ⟨?_, rfl, rfl, rfl, rfl, rfl, rfl⟩
        show oX2_learn_fk kn ho b w = kn
        unfold oX2_learn_fk
        rw [yi_abs aB kb, zUpS]
      obtain ⟨k0, k1, k2, k3, k4, k5, k6⟩ := k
      rw [k0, k1, k2, k3, k4, k5, k6]
      refine ⟨?_, ⟨iC, iG, yNE q iN c1, iS, iK0, iK, iH0, iH⟩, ⟨kA, ?_⟩, ⟨hA, ?_⟩, hc, ⟨hE, hTp⟩, hp, M1⟩
      · unfold rL_does_12 rX7_tell
        rw [xs, if_pos rfl, if_pos j90, j120, M2]
        exact if_pos rfl
      · rw [if_neg (zEMn q)]
        exact kB
      · rw [if_neg (zEMn q)]
        exact hB
    · have vk0 := w0.mpr kb
      have e8 : ((((8 : Int32) * a) + ((64 : Int32) * b)) + ((512 : Int32) * w)) = zcd 0 a b w := by
        unfold zcd
        rw [Int32.zero_add]
      have zi := zcd_inj (r2 _ hn) (r3 _ hn) (r4 _ hn) (r5 _ hn) (k' := 0) (by unfold vp_in; decide) ra aB rw_
      have j90 : jX7_tell_90_0 ni li mi mv nx al nc nl ki fi se th size on il ba kT hT kn ho a b w = 1 := by
        unfold jX7_tell_90_0 rX2_isKnower
        rw [if_pos (ib.mpr kb)]
      simp only [vk0, if_true]
      have kk1 : zJk (fun j => upd vk (24 + (4 * b.toNatClampNeg + w.toNatClampNeg)) (1 : Int32) (24 + j)) (upd kn w.toNatClampNeg (kn w.toNatClampNeg ||| ((1 : Int32) <<< (b &&& 31)))) := by
        rw [zsk]
        exact zJk_or kB aB rw_
      have iK1 : yKn (upd kn w.toNatClampNeg (kn w.toNatClampNeg ||| ((1 : Int32) <<< (b &&& 31)))) := yKn_upd iK hlw (v_or (iK.1 _ hlw) aB)
      have CC1 := fun (kT' hT' : Nat → Int32) (p : Int32) (h0 : 0 ≤ p.toInt) => zCC (upd vk (24 + (4 * b.toNatClampNeg + w.toNatClampNeg)) (1 : Int32)) vh vc vg ki fi se th kT' hT' (upd kn w.toNatClampNeg (kn w.toNatClampNeg ||| ((1 : Int32) <<< (b &&& 31)))) ho size on il ba p hg0 hg1 hg2 c1 hc r2 r3 r4 r5 h0 kk1 hB iK1.1 iH.1
      have kk2 : zJk (upd (upd vk (24 + (4 * b.toNatClampNeg + w.toNatClampNeg)) (1 : Int32)) (24 + (4 * b.toNatClampNeg + w.toNatClampNeg)) (1 : Int32)) kb0 := zJk_t (zJk_t kA (by omega) _) (by omega) _
      have uu : upd (upd vk (24 + (4 * b.toNatClampNeg + w.toNatClampNeg)) (1 : Int32)) (24 + (4 * b.toNatClampNeg + w.toNatClampNeg)) (1 : Int32) = upd vk (24 + (4 * b.toNatClampNeg + w.toNatClampNeg)) (1 : Int32) := by
        funext j
        rw [yupd32, yupd32]
        split <;> rfl
      have uz : upd (upd vk (24 + (4 * b.toNatClampNeg + w.toNatClampNeg)) (1 : Int32)) (24 + (4 * b.toNatClampNeg + w.toNatClampNeg)) (0 : Int32) = vk := by
        funext j
        rw [yupd32, yupd32]
        by_cases z : j = 24 + (4 * b.toNatClampNeg + w.toNatClampNeg)
        · rw [if_pos z, z, vk0]
        · rw [if_neg z, if_neg z]
      by_cases hd : st = ((((8 : Int32) * a) + ((64 : Int32) * b)) + ((512 : Int32) * w))
      · have hst := hd
        rw [aS q, e8] at hst
        obtain ⟨y1, y2, y3, y4⟩ := zi.mp hst
        have ij : rX0_isJust ki fi se th size nx 0 a b w = 1 := by
          rw [zIJ n0 n1, if_pos y1, if_neg (show ¬ (0 : Int32) = 2 by decide), if_neg (show ¬ (0 : Int32) = 3 by decide), if_neg (show ¬ (0 : Int32) = 4 by decide)]
          unfold jX0_isJust_50_0
          rw [if_pos y2, if_pos y3, if_neg z10, if_pos y4]
        have j120 : jX7_tell_120_0 ni li mi mv nx al nc nl ki fi se th size on il ba kT hT kn ho a b w = 1 := by
          unfold jX7_tell_120_0
          rw [if_neg (by rw [j90]; exact z10), if_neg (by rw [ij]; exact z10)]
        simp only [if_pos hd, if_neg z10]
        have eB : (if rL_closes vk vh vc vg nx = 0 then (0 : Int32) else (if rL_closes (upd vk (24 + (4 * b.toNatClampNeg + w.toNatClampNeg)) (1 : Int32)) vh vc vg (nx + (1 : Int32)) = 0 then (1 : Int32) else (0 : Int32))) = 0 := by
          by_cases z : rL_closes vk vh vc vg nx = 0
          · rw [if_pos z]
          · rw [if_neg z]
            have z2 := z
            rw [CC kT hT] at z2
            have td := yTD ki fi se th kT hT kT hT kn ho size on il ba nx c1 r3 r4 r5 n0 hsz z2 y1 (by rw [y2, y4]; exact ka)
            rw [y3, y4] at td
            rw [CC1 kT hT (nx + 1) (by omega), if_neg td]
        simp only [eB, if_true, uu]
        obtain ⟨M1, M2⟩ := zMV ki fi se th hg q n0 n1 c1 (d := 1) (Or.inr rfl)
        have k : oL_does_12_kn ni li mi mv nx al nc nl ki fi se th size on il ba kT hT kn ho a b w 0 = upd kn w.toNatClampNeg (kn w.toNatClampNeg ||| ((1 : Int32) <<< (b &&& 31))) ∧ oL_does_12_ni ni li mi mv nx al nc nl ki fi se th size on il ba kT hT kn ho a b w 0 = oX7_endMove_ni ni li mi mv nx al nc nl ki fi se th size 1 ∧ oL_does_12_mi ni li mi mv nx al nc nl ki fi se th size on il ba kT hT kn ho a b w 0 = oX7_endMove_mi ni li mi mv nx al nc nl ki fi se th size 1 ∧ oL_does_12_mv ni li mi mv nx al nc nl ki fi se th size on il ba kT hT kn ho a b w 0 = oX7_endMove_mv ni li mi mv nx al nc nl ki fi se th size 1 ∧ oL_does_12_nx ni li mi mv nx al nc nl ki fi se th size on il ba kT hT kn ho a b w 0 = oX7_endMove_nx ni li mi mv nx al nc nl ki fi se th size 1 ∧ oL_does_12_nc ni li mi mv nx al nc nl ki fi se th size on il ba kT hT kn ho a b w 0 = oX7_endMove_nc ni li mi mv nx al nc nl ki fi se th size 1 ∧ oL_does_12_nl ni li mi mv nx al nc nl ki fi se th size on il ba kT hT kn ho a b w 0 = oX7_endMove_nl ni li mi mv nx al nc nl ki fi se th size 1 := by
          unfold oL_does_12_kn oL_does_12_ni oL_does_12_mi oL_does_12_mv oL_does_12_nx oL_does_12_nc oL_does_12_nl oX7_tell_kn oX7_tell_ni oX7_tell_mi oX7_tell_mv oX7_tell_nx oX7_tell_nc oX7_tell_nl
          rw [xs, j90, j120]
          exact ⟨rfl, rfl, rfl, rfl, rfl, rfl, rfl⟩
        obtain ⟨k0, k1, k2, k3, k4, k5, k6⟩ := k
        rw [k0, k1, k2, k3, k4, k5, k6]
        rw [uu] at kk2
        refine ⟨?_, ⟨iC, iG, yNE q iN c1, iS, iK0, iK1, iH0, iH⟩, ⟨kk2, ?_⟩, ⟨hA, ?_⟩, hc, ⟨hE, hTp⟩, hp, M1⟩
        · unfold rL_does_12 rX7_tell
          rw [xs, if_pos rfl, j90, if_neg z10, j120, if_neg z10, M2]
          exact if_pos rfl
        · rw [if_neg (zEMn q)]
          exact kk1
        · rw [if_neg (zEMn q)]
          exact hB
      · have ij : rX0_isJust ki fi se th size nx 0 a b w = 0 := by
          rw [zIJ n0 n1]
          by_cases y1 : ki nx.toNatClampNeg = 0
          · rw [if_pos y1, if_neg (show ¬ (0 : Int32) = 2 by decide), if_neg (show ¬ (0 : Int32) = 3 by decide), if_neg (show ¬ (0 : Int32) = 4 by decide)]
            unfold jX0_isJust_50_0
            by_cases y2 : fi nx.toNatClampNeg = a
            · rw [if_pos y2]
              by_cases y3 : se nx.toNatClampNeg = b
              · rw [if_pos y3, if_neg z10]
                by_cases y4 : th nx.toNatClampNeg = w
                · refine absurd ?_ hd
                  rw [aS q, e8]
                  exact zi.mpr ⟨y1, y2, y3, y4⟩
                · rw [if_neg y4]
              · rw [if_neg y3, if_pos rfl]
            · rw [if_neg y2, if_pos rfl]
          · rw [if_neg y1]
        have j120 : jX7_tell_120_0 ni li mi mv nx al nc nl ki fi se th size on il ba kT hT kn ho a b w = 0 := by
          unfold jX7_tell_120_0
          rw [if_neg (by rw [j90]; exact z10), if_pos ij]
        simp only [if_neg hd, if_true, Int32.add_zero]
        have fg : oX2_forget_fk (oX2_learn_fk kn ho b w) ho b w = kn := by
          unfold oX2_forget_fk oX2_learn_fk
          funext j
          rw [yupd32, zuE, yupd32]
          by_cases z : j = w.toNatClampNeg
          · rw [if_pos z, z]
            exact yi_back aB kb
          · rw [if_neg z, if_neg z]
        have wk : oX7_wouldSpoil_kn ni li mi mv nx al nc nl ki fi se th size on il ba kT hT kn ho b w = kn := by
          unfold oX7_wouldSpoil_kn
          rw [fg, ite_self]
        have ws : rX7_wouldSpoil ni li mi mv nx al nc nl ki fi se th size on il ba kT hT kn ho b w = (if rL_closes vk vh vc vg nx = 0 then (0 : Int32) else (if rL_closes (upd vk (24 + (4 * b.toNatClampNeg + w.toNatClampNeg)) (1 : Int32)) vh vc vg nx = 0 then (1 : Int32) else (0 : Int32))) := by
          unfold rX7_wouldSpoil
          rw [CC kT hT, CC1 (oX3_canBeClosed_kT ki fi se th size on il ba kT hT kn ho nx) (oX3_canBeClosed_hT ki fi se th size on il ba kT hT kn ho nx) nx n0]
          rfl
        generalize hBL : (if rL_closes vk vh vc vg nx = 0 then (0 : Int32) else (if rL_closes (upd vk (24 + (4 * b.toNatClampNeg + w.toNatClampNeg)) (1 : Int32)) vh vc vg nx = 0 then (1 : Int32) else (0 : Int32))) = bl at ws ⊢
        by_cases hb : bl = 0
        · simp only [if_pos hb, uu]
          rw [hb] at ws
          obtain ⟨M1, M2⟩ := zMV ki fi se th hg q n0 n1 c1 (d := 0) (Or.inl rfl)
          have k : oL_does_12_kn ni li mi mv nx al nc nl ki fi se th size on il ba kT hT kn ho a b w 0 = upd kn w.toNatClampNeg (kn w.toNatClampNeg ||| ((1 : Int32) <<< (b &&& 31))) ∧ oL_does_12_ni ni li mi mv nx al nc nl ki fi se th size on il ba kT hT kn ho a b w 0 = oX7_endMove_ni ni li mi mv nx al nc nl ki fi se th size 0 ∧ oL_does_12_mi ni li mi mv nx al nc nl ki fi se th size on il ba kT hT kn ho a b w 0 = oX7_endMove_mi ni li mi mv nx al nc nl ki fi se th size 0 ∧ oL_does_12_mv ni li mi mv nx al nc nl ki fi se th size on il ba kT hT kn ho a b w 0 = oX7_endMove_mv ni li mi mv nx al nc nl ki fi se th size 0 ∧ oL_does_12_nx ni li mi mv nx al nc nl ki fi se th size on il ba kT hT kn ho a b w 0 = oX7_endMove_nx ni li mi mv nx al nc nl ki fi se th size 0 ∧ oL_does_12_nc ni li mi mv nx al nc nl ki fi se th size on il ba kT hT kn ho a b w 0 = oX7_endMove_nc ni li mi mv nx al nc nl ki fi se th size 0 ∧ oL_does_12_nl ni li mi mv nx al nc nl ki fi se th size on il ba kT hT kn ho a b w 0 = oX7_endMove_nl ni li mi mv nx al nc nl ki fi se th size 0 := by
            unfold oL_does_12_kn oL_does_12_ni oL_does_12_mi oL_does_12_mv oL_does_12_nx oL_does_12_nc oL_does_12_nl oX7_tell_kn oX7_tell_ni oX7_tell_mi oX7_tell_mv oX7_tell_nx oX7_tell_nc oX7_tell_nl
            rw [xs, j90, j120, ws, wk]
            exact ⟨rfl, rfl, rfl, rfl, rfl, rfl, rfl⟩
          obtain ⟨k0, k1, k2, k3, k4, k5, k6⟩ := k
          rw [k0, k1, k2, k3, k4, k5, k6]
          rw [uu] at kk2
          refine ⟨?_, ⟨iC, iG, yNE q iN c1, iS, iK0, iK1, iH0, iH⟩, ⟨kk2, ?_⟩, ⟨hA, ?_⟩, hc, ⟨hE, hTp⟩, hp, M1⟩
          · unfold rL_does_12 rX7_tell
            rw [xs, if_pos rfl, j90, if_neg z10, j120, if_pos (show (0 : Int32) = 0 from rfl), if_pos ws, M2]
            exact if_pos rfl
          · rw [if_neg (zEMn q)]
            exact kk1
          · rw [if_neg (zEMn q)]
            exact hB
        · have ws2 : ¬ rX7_wouldSpoil ni li mi mv nx al nc nl ki fi se th size on il ba kT hT kn ho b w = 0 := by
            rw [ws]
            exact hb
          simp only [if_neg hb, uz]
          have k : oL_does_12_kn ni li mi mv nx al nc nl ki fi se th size on il ba kT hT kn ho a b w 0 = kn ∧ oL_does_12_ni ni li mi mv nx al nc nl ki fi se th size on il ba kT hT kn ho a b w 0 = ni ∧ oL_does_12_mi ni li mi mv nx al nc nl ki fi se th size on il ba kT hT kn ho a b w 0 = mi ∧ oL_does_12_mv ni li mi mv nx al nc nl ki fi se th size on il ba kT hT kn ho a b w 0 = mv ∧ oL_does_12_nx ni li mi mv nx al nc nl ki fi se th size on il ba kT hT kn ho a b w 0 = nx ∧ oL_does_12_nc ni li mi mv nx al nc nl ki fi se th size on il ba kT hT kn ho a b w 0 = nc ∧ oL_does_12_nl ni li mi mv nx al nc nl ki fi se th size on il ba kT hT kn ho a b w 0 = nl := by
            unfold oL_does_12_kn oL_does_12_ni oL_does_12_mi oL_does_12_mv oL_does_12_nx oL_does_12_nc oL_does_12_nl oX7_tell_kn oX7_tell_ni oX7_tell_mi oX7_tell_mv oX7_tell_nx oX7_tell_nc oX7_tell_nl
            rw [xs, j90, j120, wk]
            simp only [if_neg ws2, if_neg z10, if_true]
            exact ⟨trivial, trivial, trivial, trivial, trivial, trivial, trivial⟩
          obtain ⟨k0, k1, k2, k3, k4, k5, k6⟩ := k
          rw [k0, k1, k2, k3, k4, k5, k6]
          refine ⟨?_, ⟨iC, iG, iN, iS, iK0, iK, iH0, iH⟩, ⟨kA, ?_⟩, ⟨hA, ?_⟩, hc, ⟨hE, hTp⟩, hp, hg⟩
          · unfold rL_does_12 rX7_tell
            rw [xs, if_pos rfl, j90, if_neg z10, j120, if_pos (show (0 : Int32) = 0 from rfl), if_neg ws2, if_pos rfl]
          · rw [if_neg q0]
            exact kB
          · rw [if_neg q0]
            exact hB
