/-! what the class is asked after each call -/
theorem zCmpD {x : UInt64} (h : vf_n64 x) : Op.cmpValue (FP.dcmp x x) .l = 0 := by
  have ht : FP.Core.b64.tails = 4503599627370496 := by decide
  have he : FP.Core.b64.exps = 2048 := by decide
  have hm : x.toNat % 2 ^ 63 ≤ 9218868437227405312 := by
    unfold vf_n64 at h
    rw [UInt64.le_iff_toNat_le, UInt64.toNat_and] at h
    have e1 : (0x7fffffffffffffff : UInt64).toNat = 2 ^ 63 - 1 := by decide
    rw [e1, Nat.and_two_pow_sub_one_eq_mod] at h
    exact h
  have hn : FP.Core.decode FP.Core.b64 x.toNat ≠ .nan := by
    have := x.toNat_lt
    unfold FP.Core.decode FP.Core.fieldE FP.Core.fieldT
    rw [ht, he]
    split
    · rw [if_pos (by omega)]
      exact fun h => by cases h
    · split <;> exact fun h => by cases h
  have hc : ∀ a : Int, compare a a = Ordering.eq := fun a => by simp [compare, compareOfLessAndEq]
  show Op.cmpValue (FP.Core.order (FP.Core.decode FP.Core.b64 x.toNat) (FP.Core.decode FP.Core.b64 x.toNat)) .l = 0
  revert hn
  generalize FP.Core.decode FP.Core.b64 x.toNat = d
  intro hn
  cases d with
  | nan => exact absurd rfl hn
  | inf s =>
    show Op.cmpValue (some (compare _ _)) .l = 0
    rw [hc]
    rfl
  | fin s c q =>
    show Op.cmpValue (some (compare _ _)) .l = 0
    rw [hc]
    rfl
theorem zMpos (ki fi se th kn ho : Nat → Int32) (size on il ba nx : Int32) (h0 : 0 ≤ nx.toInt) (hlt : nx.toInt < size.toInt) : ¬ rX4_movesTo ki fi se th size on il ba kn ho nx ≤ 0 := by
  unfold rX4_movesTo rX4_toHear rX4_toGet rX4_toHaveOn
  rw [if_neg (ynn h0), if_pos (show nx < size by rw [Int32.lt_iff_toInt_lt]; exact hlt)]
  repeat' split
  all_goals decide
theorem zsu (ni : Int32)(li : Int32)(mi : Int32)(mv : Int32)(nx : Int32)(al : Int32)(nc : Int32)(nl : Int32)(ki : Nat → Int32)(fi : Nat → Int32)(se : Nat → Int32)(th : Nat → Int32)(size : Int32)(on : Int32)(il : Int32)(ba : Int32)(kT : Nat → Int32)(hT : Nat → Int32)(kn : Nat → Int32)(ho : Nat → Int32)(fr : Nat → Int64)(fb : Nat → Int64)(kb0 : Nat → Int32)(hb0 : Nat → Int32)(pt : Nat → Int32)(vk : Nat → Int32)(vh : Nat → Int32)(vc : Nat → Int32)(vq : Nat → Int32)(vg : Nat → Int32)(p1 : Int32) (hq : ∀ j : Nat, j < 6 → vq j = pt j) (msk : Int32) : ∀ (n : Nat) (su i : Int32), 0 ≤ i.toInt → i.toInt ≤ 6 → 6 - i.toInt < n → ∃ i' : Int32, lX7_share_8_r ni li mi mv nx al nc nl pt msk n su i = qX7_share_29_r ni li mi mv nx al nc nl pt msk (lL_isSo_191_su1 ni li mi mv nx al nc nl ki fi se th size on il ba kT hT kn ho fr fb kb0 hb0 pt vk vh vc vq vg p1 n su i) i' := by
  intro n
  induction n with
  | zero =>
    intro su i h0 h2 h1
    omega
  | succ n ih =>
    intro su i h0 h2 h1
    have e6 : (6 : Int32).toInt = 6 := rfl
    rw [lX7_share_8_r, lL_isSo_191_su1]
    by_cases hc : (6 : Int32) ≤ i
    · rw [if_pos hc, if_pos hc]
      exact ⟨i, rfl⟩
    · rw [if_neg hc, if_neg hc]
      have hI := zInc hc
      have hi : vp_in i 6 := zin_c h0 hc (by decide)
      have hi2 := vp_in_iff.mp hi
      rw [hq _ (zin_lt hi)]
      exact ih _ (i + 1) (by omega) (by omega) (by omega)
set_option maxHeartbeats 4000000 in
theorem zT_so {N : Nat} {ni li mi mv nx al nc nl on il ba size : Int32} {ki fi se th kT hT kn ho kb0 hb0 : Nat → Int32} {gs : Int32} {le wi pr tp pt : Nat → Int32} {fr fb : Nat → Int64} {vk vh vc ve vq vg : Nat → Int32} (h : zRc N ni li mi mv nx al nc nl on il ba size ki fi se th kT hT kn ho kb0 hb0 gs le wi pr tp pt fr fb vk vh vc ve vq vg) (p1 : Int32) (h1 : 0 ≤ p1.toInt) : ((vg ((4 : Int32)).toNatClampNeg) = (1 : Int32) → ¬ (rL_closes vk vh vc vg (vg ((7 : Int32)).toNatClampNeg)) = 0 → vp_in ((vc ((vg ((7 : Int32)).toNatClampNeg)).toNatClampNeg) / (512 : Int32)) 4) ∧ ((vg ((4 : Int32)).toNatClampNeg) = (1 : Int32) → 0 ≤ (vg ((7 : Int32)).toNatClampNeg).toInt) ∧ ((vg ((4 : Int32)).toNatClampNeg) = (1 : Int32) → ¬ (rL_closes vk vh vc vg (vg ((7 : Int32)).toNatClampNeg)) = 0 → vp_in (vg ((7 : Int32)).toNatClampNeg) 13) ∧ ((vg ((4 : Int32)).toNatClampNeg) = (1 : Int32) → ¬ (rL_closes vk vh vc vg (vg ((7 : Int32)).toNatClampNeg)) = 0 → vp_in (vg ((7 : Int32)).toNatClampNeg) 13) ∧ ((vg ((4 : Int32)).toNatClampNeg) = (1 : Int32) → ¬ (rL_closes vk vh vc vg (vg ((7 : Int32)).toNatClampNeg)) = 0 → vp_in (vg ((7 : Int32)).toNatClampNeg) 13) ∧ ((vg ((4 : Int32)).toNatClampNeg) = (1 : Int32) → ¬ (rL_closes vk vh vc vg (vg ((7 : Int32)).toNatClampNeg)) = 0 → vp_in (vg ((7 : Int32)).toNatClampNeg) 13) ∧ ((vg ((4 : Int32)).toNatClampNeg) = (1 : Int32) → ¬ (rL_closes vk vh vc vg (vg ((7 : Int32)).toNatClampNeg)) = 0 → ¬ (zRem (vc ((vg ((7 : Int32)).toNatClampNeg)).toNatClampNeg) (8 : Int32)) = (2 : Int32) → ¬ (zRem (vc ((vg ((7 : Int32)).toNatClampNeg)).toNatClampNeg) (8 : Int32)) = (3 : Int32) → (zRem (vc ((vg ((7 : Int32)).toNatClampNeg)).toNatClampNeg) (8 : Int32)) = (1 : Int32) → vp_in ((4 : Int32) + ((vc ((vg ((7 : Int32)).toNatClampNeg)).toNatClampNeg) / (512 : Int32))) 9) ∧ ((vg ((4 : Int32)).toNatClampNeg) = (1 : Int32) → ¬ (rL_closes vk vh vc vg (vg ((7 : Int32)).toNatClampNeg)) = 0 → ¬ (zRem (vc ((vg ((7 : Int32)).toNatClampNeg)).toNatClampNeg) (8 : Int32)) = (2 : Int32) → ¬ (zRem (vc ((vg ((7 : Int32)).toNatClampNeg)).toNatClampNeg) (8 : Int32)) = (3 : Int32) → (zRem (vc ((vg ((7 : Int32)).toNatClampNeg)).toNatClampNeg) (8 : Int32)) = (1 : Int32) → ¬ (vh (((4 : Int32) + ((vc ((vg ((7 : Int32)).toNatClampNeg)).toNatClampNeg) / (512 : Int32)))).toNatClampNeg) = ((zRem ((vc ((vg ((7 : Int32)).toNatClampNeg)).toNatClampNeg) / (8 : Int32)) (8 : Int32)) + (1 : Int32)) → vp_in ((4 : Int32) + ((vc ((vg ((7 : Int32)).toNatClampNeg)).toNatClampNeg) / (512 : Int32))) 9) ∧ ((vg ((4 : Int32)).toNatClampNeg) = (1 : Int32) → ¬ (rL_closes vk vh vc vg (vg ((7 : Int32)).toNatClampNeg)) = 0 → ¬ (zRem (vc ((vg ((7 : Int32)).toNatClampNeg)).toNatClampNeg) (8 : Int32)) = (2 : Int32) → ¬ (zRem (vc ((vg ((7 : Int32)).toNatClampNeg)).toNatClampNeg) (8 : Int32)) = (3 : Int32) → (zRem (vc ((vg ((7 : Int32)).toNatClampNeg)).toNatClampNeg) (8 : Int32)) = 0 → vp_in (((24 : Int32) + ((4 : Int32) * (zRem ((vc ((vg ((7 : Int32)).toNatClampNeg)).toNatClampNeg) / (8 : Int32)) (8 : Int32)))) + ((vc ((vg ((7 : Int32)).toNatClampNeg)).toNatClampNeg) / (512 : Int32))) 49) ∧ (¬ (lL_isSo_144_is2 ni li mi mv nx al nc nl ki fi se th size on il ba kT hT kn ho fr fb kb0 hb0 pt vk vh vc vq vg p1 5 (lL_isSo_85_is1 ni li mi mv nx al nc nl ki fi se th size on il ba kT hT kn ho fr fb kb0 hb0 pt vk vh vc vq vg p1 25 (jL_isSo_80_0 ni li mi mv nx al nc nl ki fi se th size on il ba kT hT kn ho fr fb kb0 hb0 pt vk vh vc vq vg p1) (0 : Int32)) (0 : Int32)) = 0 → (rX7_count ni li mi mv nx al nc nl on il ba (0 : Int32)) = (vg ((6 : Int32)).toNatClampNeg) → (rX7_count ni li mi mv nx al nc nl on il ba (1 : Int32)) = (vg ((10 : Int32)).toNatClampNeg) → (rX7_count ni li mi mv nx al nc nl on il ba (2 : Int32)) = (vg ((11 : Int32)).toNatClampNeg) → (rX7_count ni li mi mv nx al nc nl on il ba (3 : Int32)) = (vg ((12 : Int32)).toNatClampNeg) → (rX7_count ni li mi mv nx al nc nl on il ba (4 : Int32)) = (vg ((9 : Int32)).toNatClampNeg) → (rX7_count ni li mi mv nx al nc nl on il ba (5 : Int32)) = (vg ((8 : Int32)).toNatClampNeg) → (xX7_share ni li mi mv nx al nc nl pt (zRem p1 (6 : Int32))) = 0) ∧ (¬ (lL_isSo_144_is2 ni li mi mv nx al nc nl ki fi se th size on il ba kT hT kn ho fr fb kb0 hb0 pt vk vh vc vq vg p1 5 (lL_isSo_85_is1 ni li mi mv nx al nc nl ki fi se th size on il ba kT hT kn ho fr fb kb0 hb0 pt vk vh vc vq vg p1 25 (jL_isSo_80_0 ni li mi mv nx al nc nl ki fi se th size on il ba kT hT kn ho fr fb kb0 hb0 pt vk vh vc vq vg p1) (0 : Int32)) (0 : Int32)) = 0 → (rX7_count ni li mi mv nx al nc nl on il ba (0 : Int32)) = (vg ((6 : Int32)).toNatClampNeg) → (rX7_count ni li mi mv nx al nc nl on il ba (1 : Int32)) = (vg ((10 : Int32)).toNatClampNeg) → (rX7_count ni li mi mv nx al nc nl on il ba (2 : Int32)) = (vg ((11 : Int32)).toNatClampNeg) → (rX7_count ni li mi mv nx al nc nl on il ba (3 : Int32)) = (vg ((12 : Int32)).toNatClampNeg) → (rX7_count ni li mi mv nx al nc nl on il ba (4 : Int32)) = (vg ((9 : Int32)).toNatClampNeg) → (rX7_count ni li mi mv nx al nc nl on il ba (5 : Int32)) = (vg ((8 : Int32)).toNatClampNeg) → ¬ (lL_isSo_191_su1 ni li mi mv nx al nc nl ki fi se th size on il ba kT hT kn ho fr fb kb0 hb0 pt vk vh vc vq vg p1 7 (0 : Int32) (0 : Int32)) = 0 → vp_in (zRem p1 (6 : Int32)) 7) ∧ rL_isSo ni li mi mv nx al nc nl ki fi se th size on il ba kT hT kn ho fr fb kb0 hb0 pt vk vh vc vq vg p1 = 1 ∧ zRc N ni li mi mv nx al nc nl on il ba size ki fi se th (oL_isSo_kT ni li mi mv nx al nc nl ki fi se th size on il ba kT hT kn ho fr fb kb0 hb0 pt vk vh vc vq vg p1) (oL_isSo_hT ni li mi mv nx al nc nl ki fi se th size on il ba kT hT kn ho fr fb kb0 hb0 pt vk vh vc vq vg p1) kn ho kb0 hb0 gs le wi pr tp pt (oL_isSo_fr ni li mi mv nx al nc nl ki fi se th size on il ba kT hT kn ho fr fb kb0 hb0 pt vk vh vc vq vg p1) (oL_isSo_fb ni li mi mv nx al nc nl ki fi se th size on il ba kT hT kn ho fr fb kb0 hb0 pt vk vh vc vq vg p1) vk vh vc ve vq vg := by
  obtain ⟨⟨iC, iG, iN, iS, iK0, iK, iH0, iH⟩, ⟨kA, kB⟩, ⟨hA, hB⟩, hc, ⟨hE, hTp⟩, hp, hg⟩ := h
  have hg' := hg
  obtain ⟨g0, g1, g2, g3, g4, g5, g6, g7, g8, g9, g10, g11, g12⟩ := hg'
  have iC' := iC
  obtain ⟨c0, c1, r2, r3, r4, r5, r6⟩ := iC'
  have hg0 : vg ((0 : Int32)).toNatClampNeg = size := by rw [zN0, g0]
  have hg1 : vg ((1 : Int32)).toNatClampNeg = il := by rw [zN1, g1]
  have hg2 : vg ((2 : Int32)).toNatClampNeg = ba := by rw [zN2, g2]
  have hg4 : vg ((4 : Int32)).toNatClampNeg = ni := by rw [zN4, g4]
  have hg7 : vg ((7 : Int32)).toNatClampNeg = nx := by rw [zN7, g7]
  have hg9 : vg ((9 : Int32)).toNatClampNeg = on := by rw [zN9, g9]
  have rm := zrI p1 6 6 rfl (by decide) h1
  have hW7 : ni = 1 → vp_in (vc nx.toNatClampNeg / (512 : Int32)) 4 := by
    intro q
    obtain ⟨n0, n1⟩ := iN q
    have hn : nx.toNatClampNeg < 12 := by
      have e := zcn n0
      omega
    rw [hc _ hn, zcd_w (r2 _ hn) (r3 _ hn) (r4 _ hn) (r5 _ hn)]
    exact r5 _ hn
  have hA7 : ni = 1 → vp_in (zRem (vc nx.toNatClampNeg / (8 : Int32)) (8 : Int32)) 6 := by
    intro q
    obtain ⟨n0, n1⟩ := iN q
    have hn : nx.toNatClampNeg < 12 := by
      have e := zcn n0
      omega
    rw [hc _ hn, zcd_a (r2 _ hn) (r3 _ hn) (r4 _ hn) (r5 _ hn)]
    exact r3 _ hn
  have h13 : ni = 1 → vp_in nx 13 := by
    intro q
    obtain ⟨n0, n1⟩ := iN q
    exact zin_b n0 (by omega)
  have hcl : ∀ KT HT : Nat → Int32, ni = 1 → rL_closes vk vh vc vg nx = rX3_canBeClosed ki fi se th size on il ba KT HT kn ho nx := by
    intro KT HT q
    have q0 : ¬ ni = 0 := by
      rw [q]
      exact z10
    rw [if_neg q0] at kB hB
    exact zCC vk vh vc vg ki fi se th KT HT kn ho size on il ba nx hg0 hg1 hg2 c1 hc r2 r3 r4 r5 (iN q).1 kB hB iK.1 iH.1
  have hw : rL_way vk vh vc vg = (if ni = 1 then (if rL_closes vk vh vc vg nx = 0 then -1 else rX4_movesTo ki fi se th size on il ba kn ho nx) else -1) := by
    by_cases q : ni = 1
    · have q0 : ¬ ni = 0 := by
        rw [q]
        exact z10
      rw [if_neg q0] at kB hB
      rw [if_pos q]
      exact zWY vk vh vc vg ki fi se th kn ho size on il ba nx _ rfl hg7 hg9 (hg4.trans q) c1 hc r2 r3 r4 r5 (iN q).1 (iN q).2 kB hB iK.1 iH.1
    · unfold rL_way
      rw [hg4, if_neg q, if_neg q]
  have hcan : ∀ KT HT : Nat → Int32, rX7_can ni li mi mv nx al nc nl ki fi se th size on il ba KT HT kn ho = (if ni = 1 then (if rL_closes vk vh vc vg nx = 0 then 0 else 1) else 0) := by
    intro KT HT
    unfold rX7_can
    by_cases q : ni = 1
    · rw [if_pos q, if_pos q, hcl KT HT q]
    · rw [if_neg q, if_neg q]
  have hway : ∀ KT HT : Nat → Int32, rX7_way ni li mi mv nx al nc nl ki fi se th size on il ba KT HT kn ho = rL_way vk vh vc vg := by
    intro KT HT
    unfold rX7_way
    rw [hw, hcan KT HT]
    by_cases q : ni = 1
    · rw [if_pos q, if_pos q]
      by_cases z : rL_closes vk vh vc vg nx = 0
      · rw [if_pos z, if_pos z, if_pos rfl]
      · rw [if_neg z, if_neg z, if_neg z10]
    · rw [if_neg q, if_neg q, if_pos rfl]
  have hwayA : ∀ (KT HT : Nat → Int32), rX7_wayAnew ni li mi mv nx al nc nl ki fi se th size on il ba KT HT kn ho fr fb = rL_way vk vh vc vg := by
    intro KT HT
    unfold rX7_wayAnew
    rw [hw, hcan KT HT]
    by_cases q : ni = 1
    · rw [if_pos q, if_pos q]
      by_cases z : rL_closes vk vh vc vg nx = 0
      · rw [if_pos z, if_pos z, if_pos rfl]
      · rw [if_neg z, if_neg z, if_neg z10]
        exact yV fr fb ki fi se th KT HT kn ho size on il ba nx c1 r3 r4 r5 r6 iK.1 iH.1 iS.1 (iN q).1 (iN q).2 (by rw [← hcl KT HT q]; exact z)
    · rw [if_neg q, if_neg q, if_pos rfl]
  have h47 : jL_isSo_47_0 ni li mi mv nx al nc nl ki fi se th size on il ba kT hT kn ho fr fb kb0 hb0 pt vk vh vc vq vg p1 = (if ni = 1 then (if rL_closes vk vh vc vg nx = 0 then 0 else 1) else 0) := by
    unfold jL_isSo_47_0
    rw [hw]
    by_cases q : ni = 1
    · rw [if_pos q, if_pos q]
      by_cases z : rL_closes vk vh vc vg nx = 0
      · rw [if_pos z, if_pos z, if_pos (by decide)]
      · rw [if_neg z, if_neg z, if_neg (zMpos ki fi se th kn ho size on il ba nx (iN q).1 (iN q).2)]
    · rw [if_neg q, if_neg q, if_pos (by decide)]
  have h80 : jL_isSo_80_0 ni li mi mv nx al nc nl ki fi se th size on il ba kT hT kn ho fr fb kb0 hb0 pt vk vh vc vq vg p1 = 1 := by
    unfold jL_isSo_80_0 rX7_state rX7_next
    rw [hg4, if_pos rfl, hg7, if_pos rfl, hcan kT hT, h47, if_pos rfl, hway, if_pos rfl]
    split
    · rfl
    · rw [hwayA, if_pos rfl]
  have l85 : ∀ (n : Nat) (i : Int32), 0 ≤ i.toInt → lL_isSo_85_is1 ni li mi mv nx al nc nl ki fi se th size on il ba kT hT kn ho fr fb kb0 hb0 pt vk vh vc vq vg p1 n 1 i = 1 := by
    intro n
    induction n with
    | zero =>
      intro i h0
      rw [lL_isSo_85_is1]
    | succ n ih =>
      intro i h0
      rw [lL_isSo_85_is1]
      by_cases hx : (24 : Int32) ≤ i
      · rw [if_pos hx]
      · rw [if_neg hx, if_neg z10]
        have hI := zInc hx
        have hi : vp_in i 24 := zin_c h0 hx (by decide)
        have en := zci hi
        have d4 := zdK (a := i) (b := 4) (n := 4) rfl h0 (by decide)
        have m4 := zrK (a := i) (b := 4) (n := 4) rfl h0 (by decide)
        have ed := zci (zd4 hi)
        have em := zci (zr4 hi)
        have e24 : 24 + i.toNatClampNeg = 24 + (4 * (i / (4 : Int32)).toNatClampNeg + (zRem i (4 : Int32)).toNatClampNeg) := by omega
        have key : zB (vk (24 + i.toNatClampNeg)) (yi ((if ni = 0 then kb0 else kn) (zRem i (4 : Int32)).toNatClampNeg) (i / (4 : Int32)).toNatClampNeg) := by
          rw [e24]
          exact kB _ _ (zin_lt (zd4 hi)) (zin_lt (zr4 hi))
        have j133 : jL_isSo_133_0 ni li mi mv nx al nc nl ki fi se th size on il ba kT hT kn ho fr fb kb0 hb0 pt vk vh vc vq vg p1 1 i = 1 := by
          unfold jL_isSo_133_0 jL_isSo_125_0 rX7_isKnown rX2_isKnower
          rw [zc24p hi]
          have ex : (if ni = 0 then rX7_isIn (kb0 (zRem i (4 : Int32)).toNatClampNeg) (i / (4 : Int32)) else rX7_isIn (kn (zRem i (4 : Int32)).toNatClampNeg) (i / (4 : Int32))) = rX7_isIn ((if ni = 0 then kb0 else kn) (zRem i (4 : Int32)).toNatClampNeg) (i / (4 : Int32)) := by
            split <;> rfl
          rw [ex]
          have y := yi_is0 (x := (if ni = 0 then kb0 else kn) (zRem i (4 : Int32)).toNatClampNeg) (zd4 hi)
          rcases key with ⟨k1, k2⟩ | ⟨k1, k2⟩
          · rw [if_pos k1, if_pos ((zis1 _ _).resolve_left (fun r => (y.mp r) k2))]
          · rw [k1, if_neg (show ¬ (0 : Int32) = 1 by decide), if_pos (y.mpr k2)]
        rw [j133]
        exact ih (i + 1) (by omega)
  have l144 : ∀ (n : Nat) (i : Int32), 0 ≤ i.toInt → lL_isSo_144_is2 ni li mi mv nx al nc nl ki fi se th size on il ba kT hT kn ho fr fb kb0 hb0 pt vk vh vc vq vg p1 n 1 i = 1 := by
    intro n
    induction n with
    | zero =>
      intro i h0
      rw [lL_isSo_144_is2]
    | succ n ih =>
      intro i h0
      rw [lL_isSo_144_is2]
      by_cases hx : (4 : Int32) ≤ i
      · rw [if_pos hx]
      · rw [if_neg hx, if_neg z10]
        have hI := zInc hx
        have hi : vp_in i 4 := zin_c h0 hx (by decide)
        have key : vh (4 + i.toNatClampNeg) = (if ni = 0 then hb0 else ho) i.toNatClampNeg + 1 := hB _ (zin_lt hi)
        have j177 : jL_isSo_177_0 ni li mi mv nx al nc nl ki fi se th size on il ba kT hT kn ho fr fb kb0 hb0 pt vk vh vc vq vg p1 1 i = 1 := by
          unfold jL_isSo_177_0 rX7_holder
          rw [zc4p hi, key, Int32.add_sub_cancel]
          by_cases q : ni = 0
          · rw [if_pos q, if_pos q, if_pos rfl]
          · rw [if_neg q, if_neg q, if_pos rfl]
        rw [j177]
        exact ih (i + 1) (by omega)
  have hsh : Op.cmpValue (FP.dcmp (rX7_share ni li mi mv nx al nc nl pt (zRem p1 (6 : Int32))) (jL_isSo_336_0 ni li mi mv nx al nc nl ki fi se th size on il ba kT hT kn ho fr fb kb0 hb0 pt vk vh vc vq vg p1)) .l = 0 := by
    obtain ⟨i', e⟩ := zsu ni li mi mv nx al nc nl ki fi se th size on il ba kT hT kn ho fr fb kb0 hb0 pt vk vh vc vq vg p1 hp (zRem p1 (6 : Int32)) 7 0 0 (by decide) (by decide) (by decide)
    have e2 : jL_isSo_336_0 ni li mi mv nx al nc nl ki fi se th size on il ba kT hT kn ho fr fb kb0 hb0 pt vk vh vc vq vg p1 = rX7_share ni li mi mv nx al nc nl pt (zRem p1 (6 : Int32)) := by
      unfold rX7_share
      rw [e]
      unfold jL_isSo_336_0 qX7_share_29_r
      rw [zN10, g10, hp _ (zin_lt rm)]
    rw [e2]
    apply zCmpD
    unfold rX7_share
    rw [e]
    unfold qX7_share_29_r
    split
    · unfold vf_n64
      decide
    · next hz => exact zfDivN _ _ _ hz
  refine ⟨?_, ?_, ?_, ?_, ?_, ?_, ?_, ?_, ?_, ?_, ?_, ?_, ?_⟩
  · intro q _
    rw [hg7]
    exact hW7 (hg4.symm.trans q)
  · intro q
    rw [hg7]
    exact (iN (hg4.symm.trans q)).1
  · intro q _
    rw [hg7]
    exact h13 (hg4.symm.trans q)
  · intro q _
    rw [hg7]
    exact h13 (hg4.symm.trans q)
  · intro q _
    rw [hg7]
    exact h13 (hg4.symm.trans q)
  · intro q _
    rw [hg7]
    exact h13 (hg4.symm.trans q)
  · intro q _ _ _ _
    rw [hg7]
    exact zi4 (hW7 (hg4.symm.trans q))
  · intro q _ _ _ _ _
    rw [hg7]
    exact zi4 (hW7 (hg4.symm.trans q))
  · intro q _ _ _ _
    rw [hg7]
    exact zi24m (hA7 (hg4.symm.trans q)) (hW7 (hg4.symm.trans q))
  · intro _ _ _ _ _ _ _
    unfold xX7_share
    rw [if_pos (zMk rm)]
  · intro _ _ _ _ _ _ _ _
    exact zin_67 rm
  · unfold rL_isSo
    rw [h80, l85 25 0 (by decide), l144 5 0 (by decide), if_neg z10]
    unfold rX7_count
    rw [if_pos (show (0 : Int32) = 0 from rfl), if_neg (show ¬ (1 : Int32) = 0 by decide), if_pos (show (1 : Int32) = 1 from rfl), if_neg (show ¬ (2 : Int32) = 0 by decide), if_neg (show ¬ (2 : Int32) = 1 by decide), if_pos (show (2 : Int32) = 2 from rfl), if_neg (show ¬ (3 : Int32) = 0 by decide), if_neg (show ¬ (3 : Int32) = 1 by decide), if_neg (show ¬ (3 : Int32) = 2 by decide), if_pos (show (3 : Int32) = 3 from rfl), if_neg (show ¬ (4 : Int32) = 0 by decide), if_neg (show ¬ (4 : Int32) = 1 by decide), if_neg (show ¬ (4 : Int32) = 2 by decide), if_neg (show ¬ (4 : Int32) = 3 by decide), if_pos (show (4 : Int32) = 4 from rfl), if_neg (show ¬ (5 : Int32) = 0 by decide), if_neg (show ¬ (5 : Int32) = 1 by decide), if_neg (show ¬ (5 : Int32) = 2 by decide), if_neg (show ¬ (5 : Int32) = 3 by decide), if_neg (show ¬ (5 : Int32) = 4 by decide)]
    rw [zN6, g6, zN10, g10, zN11, g11, zN12, g12, zN9, g9, zN8, g8, if_pos rfl, if_pos rfl, if_pos rfl, if_pos rfl, if_pos rfl, if_pos rfl, if_pos hsh]
  · exact ⟨⟨iC, iG, iN, iS, iK0, iK, iH0, iH⟩, ⟨kA, kB⟩, ⟨hA, hB⟩, hc, ⟨hE, hTp⟩, hp, hg⟩
