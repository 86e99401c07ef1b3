/-! the way to the next step: the law's, and the class's -/
theorem z1xyz (x y z : Int32) : (((1 : Int32) + x) + y) + z = ((x + y) + z) + (1 : Int32) := by
  rw [Int32.add_comm 1 x, Int32.add_assoc x 1 y, Int32.add_comm 1 y, ← Int32.add_assoc x y 1, Int32.add_assoc (x + y) 1 z, Int32.add_comm 1 z, ← Int32.add_assoc (x + y) z 1]
theorem zand {x y : Int32} (hx : vp_in x 64) : x &&& y = 0 ↔ ∀ j : Nat, j < 6 → ¬ (yi x j ∧ yi y j) := by
  rw [yz]
  constructor
  · exact fun h j hj => h j (by omega)
  · intro h m _ q
    have h3 := ytb (zin_lt hx) ((yi_x hx m).mp q.1)
    exact h m h3 q
theorem zL231 (vk vh vc vg : Nat → Int32) (w on : Int32) (P : Nat → Prop) (hW : vc (vg ((7 : Int32)).toNatClampNeg).toNatClampNeg / (512 : Int32) = w) (hw : vp_in w 4) (hg9 : vg ((9 : Int32)).toNatClampNeg = on) (hP : ∀ m : Nat, m < 6 → zB (vk (24 + (4 * m + w.toNatClampNeg))) (P m)) :
    ∀ (n : Nat) (mo m1 : Int32), 0 ≤ m1.toInt → 6 - m1.toInt < n → 0 < n → (mo = 2 ∨ mo = 1) → (lL_way_231_mo1 vk vh vc vg n mo m1 = 2 ∨ lL_way_231_mo1 vk vh vc vg n mo m1 = 1) ∧ (lL_way_231_mo1 vk vh vc vg n mo m1 = 2 ↔ (mo = 2 ∧ ∀ j : Nat, m1.toInt ≤ j → j < 6 → ¬ (P j ∧ yi on j))) := by
  intro n
  induction n with
  | zero =>
    intro mo m1 h0 h1 h2
    omega
  | succ n ih =>
    intro mo m1 h0 h1 _ hmo
    rw [lL_way_231_mo1]
    have e6 : (6 : Int32).toInt = 6 := rfl
    by_cases hc : (6 : Int32) ≤ m1
    · rw [if_pos hc]
      rw [Int32.le_iff_toInt_le] at hc
      exact ⟨hmo, fun q => ⟨q, fun j a b => by omega⟩, fun q => q.1⟩
    · rw [if_neg hc]
      have hI := zInc hc
      have hm : vp_in m1 6 := zin_c h0 hc (by decide)
      have hm2 := vp_in_iff.mp hm
      have en := zci hm
      have h1' := zB1 (hP _ (zin_lt hm))
      have h2' := yi_is0 (x := on) hm
      have key : (jL_way_272_0 vk vh vc vg mo m1 = 2 ∨ jL_way_272_0 vk vh vc vg mo m1 = 1) ∧ (jL_way_272_0 vk vh vc vg mo m1 = 2 ↔ (mo = 2 ∧ ¬ (P m1.toNatClampNeg ∧ yi on m1.toNatClampNeg))) := by
        unfold jL_way_272_0
        rw [hW, zc24m hm hw, hg9, zLI]
        by_cases c : vk (24 + (4 * m1.toNatClampNeg + w.toNatClampNeg)) = (1 : Int32)
        · rw [if_pos c]
          by_cases d : rX7_isIn on m1 = 0
          · rw [if_pos d]
            exact ⟨hmo, fun q => ⟨q, fun r => (h2'.mp d) r.2⟩, fun q => q.1⟩
          · rw [if_neg d]
            exact ⟨Or.inr rfl, fun q => absurd q (by decide), fun q => absurd ⟨h1'.mp c, Classical.byContradiction (fun r => d (h2'.mpr r))⟩ q.2⟩
        · rw [if_neg c]
          exact ⟨hmo, fun q => ⟨q, fun r => c (h1'.mpr r.1)⟩, fun q => q.1⟩
      obtain ⟨a1, a2⟩ := ih _ (m1 + 1) (by omega) (by omega) (by omega) key.1
      refine ⟨a1, ?_⟩
      rw [a2, key.2]
      constructor
      · rintro ⟨⟨a, b⟩, c⟩
        refine ⟨a, fun j h1 h2 => ?_⟩
        by_cases q : j = m1.toNatClampNeg
        · rw [q]
          exact b
        · exact c j (by omega) h2
      · rintro ⟨a, b⟩
        exact ⟨⟨a, b _ (by omega) (zin_lt hm)⟩, fun j h1 h2 => b j (by omega) h2⟩
theorem zp1i {x y : Int32} : x + 1 = y + 1 ↔ x = y := by
  constructor
  · intro h
    have h2 : x + 1 - 1 = y + 1 - 1 := by rw [h]
    rw [Int32.add_sub_cancel, Int32.add_sub_cancel] at h2
    exact h2
  · intro h
    rw [h]
theorem zWY (vk vh vc vg : Nat → Int32) (ki fi se th kn ho : Nat → Int32) (size on il ba nx : Int32) (cl : Int32) (hcl : rL_closes vk vh vc vg nx = cl) (hg7 : vg ((7 : Int32)).toNatClampNeg = nx) (hg9 : vg ((9 : Int32)).toNatClampNeg = on) (hg4 : vg ((4 : Int32)).toNatClampNeg = 1) (hsz : size.toInt ≤ 12) (hvc : ∀ j : Nat, j < 12 → vc j = zcd (ki j) (fi j) (se j) (th j)) (hKI : ∀ j : Nat, j < 12 → vp_in (ki j) 5) (hFI : ∀ j : Nat, j < 12 → vp_in (fi j) 6) (hSE : ∀ j : Nat, j < 12 → vp_in (se j) 6) (hTH : ∀ j : Nat, j < 12 → vp_in (th j) 4)
    (h0 : 0 ≤ nx.toInt) (hlt : nx.toInt < size.toInt) (hk : zJk (fun j => vk (24 + j)) kn) (hh : zJh (fun j => vh (4 + j)) ho) (hk64 : ∀ s : Nat, s < 4 → vp_in (kn s) 64) (hh6 : ∀ s : Nat, s < 4 → ho s = -1 ∨ vp_in (ho s) 6) :
    rL_way vk vh vc vg = if cl = 0 then -1 else rX4_movesTo ki fi se th size on il ba kn ho nx := by
  have hc : ¬ size ≤ nx := by
    rw [Int32.le_iff_toInt_le]
    omega
  have hlt2 : nx < size := by
    rw [Int32.lt_iff_toInt_lt]
    exact hlt
  have hn := yidx h0 hc hsz
  have rk := hKI _ hn
  have ra := hFI _ hn
  have rb := hSE _ hn
  have rw_ := hTH _ hn
  have hlw := zin_lt rw_
  have eW : vc (vg ((7 : Int32)).toNatClampNeg).toNatClampNeg / (512 : Int32) = th nx.toNatClampNeg := by rw [hg7, hvc _ hn, zcd_w rk ra rb rw_]
  have eB : zRem (vc (vg ((7 : Int32)).toNatClampNeg).toNatClampNeg / (64 : Int32)) (8 : Int32) = se nx.toNatClampNeg := by rw [hg7, hvc _ hn, zcd_b rk ra rb rw_]
  have eA : zRem (vc (vg ((7 : Int32)).toNatClampNeg).toNatClampNeg / (8 : Int32)) (8 : Int32) = fi nx.toNatClampNeg := by rw [hg7, hvc _ hn, zcd_a rk ra rb rw_]
  have eK : zRem (vc (vg ((7 : Int32)).toNatClampNeg).toNatClampNeg) (8 : Int32) = ki nx.toNatClampNeg := by rw [hg7, hvc _ hn, zcd_k rk ra rb rw_]
  have hwh := hh _ hlw
  have hwh : vh (4 + (th nx.toNatClampNeg).toNatClampNeg) = ho (th nx.toNatClampNeg).toNatClampNeg + 1 := hwh
  have hgh := hh6 _ hlw
  obtain ⟨m1, m2, m3, m4⟩ := zmp1 hgh
  have hl := zL231 vk vh vc vg (th nx.toNatClampNeg) on (fun m => yi (kn (th nx.toNatClampNeg).toNatClampNeg) m) eW rw_ hg9 (fun m hm => hk m _ hm hlw) 7 2 0 (by decide) (by decide) (by decide) (Or.inl rfl)
  have hz := zand (y := on) (hk64 _ hlw)
  have c0 := zB0 (hk _ _ (zin_lt ra) hlw)
  have c0 : vk (24 + (4 * (fi nx.toNatClampNeg).toNatClampNeg + (th nx.toNatClampNeg).toNatClampNeg)) = 0 ↔ ¬ yi (kn (th nx.toNatClampNeg).toNatClampNeg) (fi nx.toNatClampNeg).toNatClampNeg := c0
  have i2 := yi_is0 (x := kn (th nx.toNatClampNeg).toNatClampNeg) ra
  have hl2 : lL_way_231_mo1 vk vh vc vg 7 2 0 = if kn (th nx.toNatClampNeg).toNatClampNeg &&& on = 0 then 2 else 1 := by
    have e0 : (0 : Int32).toInt = 0 := rfl
    by_cases q : kn (th nx.toNatClampNeg).toNatClampNeg &&& on = 0
    · rw [if_pos q]
      exact hl.2.mpr ⟨rfl, fun j _ hj => hz.mp q j hj⟩
    · rw [if_neg q]
      exact hl.1.resolve_left (fun r => q (hz.mpr (fun j hj => (hl.2.mp r).2 j (by omega) hj)))
  unfold rL_way rX4_movesTo
  rw [if_pos hg4]
  unfold jL_way_91_0 jL_way_110_0 jL_way_280_0 jL_way_205_0 jL_way_203_0
  rw [eK, eA, eB, eW, hg7, hcl, hg9, zLI, zLI, zc24m ra rw_, zc4p rw_, hwh, m3, zLI, hl2]
  by_cases hcl0 : cl = 0
  · rw [if_pos hcl0, if_pos hcl0]
  rw [if_neg hcl0, if_neg hcl0, if_neg (ynn h0), if_pos hlt2]
  unfold rX4_toHaveOn rX4_toHear rX4_toGet rX4_toHaveOn
  by_cases k0 : ki nx.toNatClampNeg = 0
  · have k2 : ¬ ki nx.toNatClampNeg = 2 := by rw [k0]; decide
    have k3 : ¬ ki nx.toNatClampNeg = 3 := by rw [k0]; decide
    have k1 : ¬ ki nx.toNatClampNeg = 1 := by rw [k0]; decide
    simp only [if_pos k0, if_neg k2, if_neg k3, if_neg k1]
    rw [z1xyz]
    by_cases q : rX7_isIn (kn (th nx.toNatClampNeg).toNatClampNeg) (fi nx.toNatClampNeg) = 0
    · rw [if_pos q, if_pos (c0.mpr (i2.mp q))]
    · rw [if_neg q, if_neg (fun r => q (i2.mpr (c0.mp r)))]
  by_cases k1 : ki nx.toNatClampNeg = 1
  · have k2 : ¬ ki nx.toNatClampNeg = 2 := by rw [k1]; decide
    have k3 : ¬ ki nx.toNatClampNeg = 3 := by rw [k1]; decide
    simp only [if_neg k0, if_neg k2, if_neg k3, if_pos k1]
    rw [z1xyz]
    by_cases q : ho (th nx.toNatClampNeg).toNatClampNeg = fi nx.toNatClampNeg
    · rw [if_pos (zp1i.mpr q), if_pos q]
    · rw [if_neg (mt zp1i.mp q), if_neg q]
      by_cases r : ho (th nx.toNatClampNeg).toNatClampNeg = -1
      · rw [if_pos r, if_pos (show ho (th nx.toNatClampNeg).toNatClampNeg < 0 by rw [r]; decide)]
      · rw [if_neg r, if_neg (zlt0 (vp_in_iff.mp (hgh.resolve_left r)).1)]
        by_cases v : ho (th nx.toNatClampNeg).toNatClampNeg = se nx.toNatClampNeg
        · rw [if_pos v, if_pos v]
        · rw [if_neg v, if_neg v]
          by_cases x : rX7_isIn on (ho (th nx.toNatClampNeg).toNatClampNeg) = 0
          · rw [if_pos x, if_pos x]
            rfl
          · rw [if_neg x, if_neg x]
            rfl
  simp only [if_neg k0, if_neg k1]
  by_cases k2 : ki nx.toNatClampNeg = 2
  · simp only [if_pos k2]
    by_cases x : rX7_isIn on (fi nx.toNatClampNeg) = 0
    · rw [if_pos x, if_pos x]
      rfl
    · rw [if_neg x, if_neg x]
      rfl
  simp only [if_neg k2]
  by_cases k3 : ki nx.toNatClampNeg = 3
  · simp only [if_pos k3]
    by_cases x : rX7_isIn on (fi nx.toNatClampNeg) = 0
    · rw [if_pos x, if_pos x]
      rfl
    · rw [if_neg x, if_neg x]
      rfl
  simp only [if_neg k3]
  rw [z1xyz, Int32.add_zero]
