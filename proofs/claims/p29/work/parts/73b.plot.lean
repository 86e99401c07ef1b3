/-! whether the plot can be closed: the law's way to see it, and the class's -/
theorem zL14 (vk vh vc vg : Nat → Int32) (p1 : Int32) : ∀ (n : Nat) (t w : Nat → Int32) (i : Int32), 0 ≤ i.toInt → i.toInt ≤ 24 → 24 - i.toInt < n → (∀ j : Nat, (j : Int) < i.toInt → t j = vk (24 + j)) → (∀ j : Nat, j < 4 → (j : Int) < i.toInt → w j = vh (4 + j)) →
    (∀ j : Nat, j < 24 → lL_closes_14_th1 vk vh vc vg p1 n t w i j = vk (24 + j)) ∧ (∀ j : Nat, j < 4 → lL_closes_14_wh1 vk vh vc vg p1 n t w i j = vh (4 + j)) := by
  intro n
  induction n with
  | zero =>
    intro t w i h0 h1 h2
    omega
  | succ n ih =>
    intro t w i h0 h1 h2 ht hw
    rw [lL_closes_14_th1, lL_closes_14_wh1]
    have e24 : (24 : Int32).toInt = 24 := rfl
    by_cases hc : (24 : Int32) ≤ i
    · rw [if_pos hc, if_pos hc]
      rw [Int32.le_iff_toInt_le] at hc
      exact ⟨fun j hj => ht j (by omega), fun j hj => hw j hj (by omega)⟩
    · rw [if_neg hc, if_neg hc]
      have hI := zInc hc
      have hi : vp_in i 24 := zin_c h0 hc (by decide)
      have hi2 := vp_in_iff.mp hi
      have en := zci hi
      have er := zrK (a := i) (b := 4) (n := 4) rfl h0 (by decide)
      have er2 := zci (zr4 hi)
      refine ih _ _ (i + 1) (by omega) (by omega) (by omega) (fun j hj => ?_) (fun j hj4 hj => ?_)
      · rw [yupd32, zc24p hi]
        by_cases q : j = i.toNatClampNeg
        · rw [if_pos q, q]
        · rw [if_neg q]
          exact ht j (by omega)
      · rw [yupd32, zc4p (zr4 hi)]
        by_cases q : j = (zRem i (4 : Int32)).toNatClampNeg
        · rw [if_pos q, q]
        · rw [if_neg q]
          exact hw j hj4 (by omega)
theorem zL14a (vk vh vc vg : Nat → Int32) (p1 : Int32) : (∀ j : Nat, j < 24 → lL_closes_14_th1 vk vh vc vg p1 25 (fun _ => (0 : Int32)) (fun _ => (0 : Int32)) (0 : Int32) j = vk (24 + j)) ∧ (∀ j : Nat, j < 4 → lL_closes_14_wh1 vk vh vc vg p1 25 (fun _ => (0 : Int32)) (fun _ => (0 : Int32)) (0 : Int32) j = vh (4 + j)) := by
  have e0 : (0 : Int32).toInt = 0 := rfl
  exact zL14 vk vh vc vg p1 25 _ _ 0 (by omega) (by omega) (by omega) (fun j hj => by omega) (fun j _ hj => by omega)
theorem zL156j (vk vh vc vg : Nat → Int32) (p1 : Int32) (th2 wh2 : Nat → Int32) (n1 il w : Int32) (P : Nat → Prop) (hW : vc n1.toNatClampNeg / (512 : Int32) = w) (hw : vp_in w 4) (hg1 : vg ((1 : Int32)).toNatClampNeg = il) (hP : ∀ m : Nat, m < 6 → zB (th2 (4 * m + w.toNatClampNeg)) (P m)) (by1 m1 : Int32) (hm : vp_in m1 6) :
    jL_closes_198_0 vk vh vc vg p1 th2 wh2 n1 by1 m1 = 0 ↔ (by1 = 0 ∧ ¬ (P m1.toNatClampNeg ∧ ¬ yi il m1.toNatClampNeg)) := by
  unfold jL_closes_198_0
  rw [hW, zc4m hm hw, hg1, zLI]
  have h1 := zB1 (hP _ (zin_lt hm))
  have h2 := yi_is0 (x := il) hm
  by_cases b : by1 = 0
  · rw [if_pos b]
    by_cases c : th2 (4 * m1.toNatClampNeg + w.toNatClampNeg) = (1 : Int32)
    · rw [if_pos c]
      by_cases d : rX7_isIn il m1 = 0
      · rw [if_pos d]
        exact ⟨fun q => absurd q (by decide), fun q => absurd ⟨h1.mp c, h2.mp d⟩ q.2⟩
      · rw [if_neg d]
        exact ⟨fun _ => ⟨b, fun q => d (h2.mpr q.2)⟩, fun _ => rfl⟩
    · rw [if_neg c]
      exact ⟨fun _ => ⟨b, fun q => c (h1.mpr q.1)⟩, fun _ => rfl⟩
  · rw [if_neg b]
    exact ⟨fun q => absurd q (by decide), fun q => absurd q.1 b⟩
theorem zL156 (vk vh vc vg : Nat → Int32) (p1 : Int32) (th2 wh2 : Nat → Int32) (n1 il w : Int32) (P : Nat → Prop) (hW : vc n1.toNatClampNeg / (512 : Int32) = w) (hw : vp_in w 4) (hg1 : vg ((1 : Int32)).toNatClampNeg = il) (hP : ∀ m : Nat, m < 6 → zB (th2 (4 * m + w.toNatClampNeg)) (P m)) :
    ∀ (n : Nat) (by1 m1 : Int32), 0 ≤ m1.toInt → 6 - m1.toInt < n → 0 < n → (lL_closes_156_by1 vk vh vc vg p1 th2 wh2 n1 n by1 m1 = 0 ↔ (by1 = 0 ∧ ∀ j : Nat, m1.toInt ≤ j → j < 6 → ¬ (P j ∧ ¬ yi il j))) := by
  intro n
  induction n with
  | zero =>
    intro by1 m1 h0 h1 h2
    omega
  | succ n ih =>
    intro by1 m1 h0 h1 _
    rw [lL_closes_156_by1]
    have e6 : (6 : Int32).toInt = 6 := rfl
    by_cases hc : (6 : Int32) ≤ m1
    · rw [if_pos hc]
      rw [Int32.le_iff_toInt_le] at hc
      exact ⟨fun q => ⟨q, fun j a b => by omega⟩, fun q => q.1⟩
    · rw [if_neg hc]
      have hI := zInc hc
      have hm : vp_in m1 6 := zin_c h0 hc (by decide)
      have hm2 := vp_in_iff.mp hm
      have en := zci hm
      rw [ih _ (m1 + 1) (by omega) (by omega) (by omega), zL156j vk vh vc vg p1 th2 wh2 n1 il w P hW hw hg1 hP by1 m1 hm]
      constructor
      · rintro ⟨⟨a, b⟩, c⟩
        refine ⟨a, fun j h1 h2 => ?_⟩
        by_cases q : j = m1.toNatClampNeg
        · rw [q]
          exact b
        · exact c j (by omega) h2
      · rintro ⟨a, b⟩
        exact ⟨⟨a, b _ (by omega) (zin_lt hm)⟩, fun j h1 h2 => b j (by omega) h2⟩
theorem zL212j (vk vh vc vg : Nat → Int32) (p1 : Int32) (th2 wh2 : Nat → Int32) (n1 : Int32) (ki fi se th : Nat → Int32) (hvc : ∀ j : Nat, j < 12 → vc j = zcd (ki j) (fi j) (se j) (th j)) (hKI : ∀ j : Nat, j < 12 → vp_in (ki j) 5) (hFI : ∀ j : Nat, j < 12 → vp_in (fi j) 6) (hSE : ∀ j : Nat, j < 12 → vp_in (se j) 6) (hTH : ∀ j : Nat, j < 12 → vp_in (th j) 4) (hn : n1.toNatClampNeg < 12) (by2 m2 : Int32) (hm : m2.toNatClampNeg < 12) :
    jL_closes_268_0 vk vh vc vg p1 th2 wh2 n1 by2 m2 = 0 ↔ (by2 = 0 ∨ (ki m2.toNatClampNeg = 0 ∧ se m2.toNatClampNeg = fi n1.toNatClampNeg ∧ th m2.toNatClampNeg = th n1.toNatClampNeg)) := by
  unfold jL_closes_268_0
  rw [hvc _ hn, hvc _ hm, zcd_k (hKI _ hm) (hFI _ hm) (hSE _ hm) (hTH _ hm), zcd_b (hKI _ hm) (hFI _ hm) (hSE _ hm) (hTH _ hm), zcd_w (hKI _ hm) (hFI _ hm) (hSE _ hm) (hTH _ hm), zcd_a (hKI _ hn) (hFI _ hn) (hSE _ hn) (hTH _ hn), zcd_w (hKI _ hn) (hFI _ hn) (hSE _ hn) (hTH _ hn)]
  by_cases b : by2 = 0
  · rw [if_pos b]
    exact ⟨fun _ => Or.inl b, fun _ => rfl⟩
  · rw [if_neg b]
    by_cases c : ki m2.toNatClampNeg = 0
    · rw [if_pos c]
      by_cases d : se m2.toNatClampNeg = fi n1.toNatClampNeg
      · rw [if_pos d]
        by_cases f : th m2.toNatClampNeg = th n1.toNatClampNeg
        · rw [if_pos f]
          exact ⟨fun _ => Or.inr ⟨c, d, f⟩, fun _ => rfl⟩
        · rw [if_neg f]
          exact ⟨fun q => absurd q (by decide), fun q => q.elim (fun q => absurd q b) (fun q => absurd q.2.2 f)⟩
      · rw [if_neg d]
        exact ⟨fun q => absurd q (by decide), fun q => q.elim (fun q => absurd q b) (fun q => absurd q.2.1 d)⟩
    · rw [if_neg c]
      exact ⟨fun q => absurd q (by decide), fun q => q.elim (fun q => absurd q b) (fun q => absurd q.1 c)⟩
theorem zL212 (vk vh vc vg : Nat → Int32) (p1 : Int32) (th2 wh2 : Nat → Int32) (n1 size : Int32) (ki fi se th : Nat → Int32) (hg0 : vg ((0 : Int32)).toNatClampNeg = size) (hsz : size.toInt ≤ 12) (hvc : ∀ j : Nat, j < 12 → vc j = zcd (ki j) (fi j) (se j) (th j)) (hKI : ∀ j : Nat, j < 12 → vp_in (ki j) 5) (hFI : ∀ j : Nat, j < 12 → vp_in (fi j) 6) (hSE : ∀ j : Nat, j < 12 → vp_in (se j) 6) (hTH : ∀ j : Nat, j < 12 → vp_in (th j) 4) (hn : n1.toNatClampNeg < 12) :
    ∀ (n : Nat) (by2 m2 : Int32), 0 ≤ m2.toInt → size.toInt - m2.toInt < n → 0 < n → (lL_closes_212_by2 vk vh vc vg p1 th2 wh2 n1 n by2 m2 = 0 ↔ (by2 = 0 ∨ ∃ j : Nat, m2.toInt ≤ j ∧ (j : Int) < size.toInt ∧ ki j = 0 ∧ se j = fi n1.toNatClampNeg ∧ th j = th n1.toNatClampNeg)) := by
  intro n
  induction n with
  | zero =>
    intro by2 m2 h0 h1 h2
    omega
  | succ n ih =>
    intro by2 m2 h0 h1 _
    rw [lL_closes_212_by2, hg0]
    by_cases hc : size ≤ m2
    · rw [if_pos hc]
      rw [Int32.le_iff_toInt_le] at hc
      exact ⟨Or.inl, fun q => q.elim id (fun ⟨j, a, b, _⟩ => by omega)⟩
    · rw [if_neg hc]
      have hI := zInc hc
      have hm : vp_in m2 12 := zin_c h0 hc hsz
      have hm2 := vp_in_iff.mp hm
      have en := zci hm
      rw [Int32.le_iff_toInt_le] at hc
      rw [ih _ (m2 + 1) (by omega) (by omega) (by omega), zL212j vk vh vc vg p1 th2 wh2 n1 ki fi se th hvc hKI hFI hSE hTH hn by2 m2 (zin_lt hm)]
      constructor
      · rintro ((a | a) | ⟨j, a, b, c⟩)
        · exact Or.inl a
        · exact Or.inr ⟨m2.toNatClampNeg, by omega, by omega, a⟩
        · exact Or.inr ⟨j, by omega, b, c⟩
      · rintro (a | ⟨j, a, b, c⟩)
        · exact Or.inl (Or.inl a)
        · by_cases q : j = m2.toNatClampNeg
          · rw [q] at c
            exact Or.inl (Or.inr c)
          · exact Or.inr ⟨j, by omega, b, c⟩
/-- what the law holds of who knows and who has, and what the class holds -/
def zJk (t k : Nat → Int32) : Prop := ∀ m s : Nat, m < 6 → s < 4 → zB (t (4 * m + s)) (yi (k s) m)
def zJh (w h : Nat → Int32) : Prop := ∀ s : Nat, s < 4 → w s = h s + 1
theorem zJk_upd {t k : Nat → Int32} (h : zJk t k) {a w v : Int32} {x : Int32} {P : Prop} (ha : vp_in a 6) (hw : vp_in w 4) (hv : zB v P) (hx : ∀ m : Nat, m < 6 → (yi x m ↔ (if m = a.toNatClampNeg then P else yi (k w.toNatClampNeg) m))) : zJk (upd t (4 * a.toNatClampNeg + w.toNatClampNeg) v) (upd k w.toNatClampNeg x) := by
  intro m s hm hs
  have h1 := zin_lt hw
  rw [yupd32, yupd32]
  by_cases q : s = w.toNatClampNeg
  · rw [if_pos q, q]
    by_cases r : m = a.toNatClampNeg
    · rw [r, if_pos rfl]
      refine zB_iff hv ?_
      have h2 := hx _ (zin_lt ha)
      rw [if_pos rfl] at h2
      exact h2.symm
    · rw [if_neg (by omega)]
      have h2 := hx m hm
      rw [if_neg r] at h2
      have h3 := h m w.toNatClampNeg hm h1
      exact zB_iff h3 h2.symm
  · rw [if_neg q, if_neg (by omega)]
    exact h m s hm hs
theorem zJk_or {t k : Nat → Int32} (h : zJk t k) {a w : Int32} (ha : vp_in a 6) (hw : vp_in w 4) : zJk (upd t (4 * a.toNatClampNeg + w.toNatClampNeg) (1 : Int32)) (upd k w.toNatClampNeg (k w.toNatClampNeg ||| ((1 : Int32) <<< (a &&& 31)))) := by
  refine zJk_upd (P := True) h ha hw (Or.inl ⟨rfl, trivial⟩) (fun m hm => ?_)
  rw [yi_or, yi_one3 ha (by omega)]
  by_cases q : m = a.toNatClampNeg
  · rw [if_pos q]
    exact ⟨fun _ => trivial, fun _ => Or.inr q⟩
  · rw [if_neg q]
    exact ⟨fun r => r.elim id (fun r => absurd r q), Or.inl⟩
theorem zJh_upd {w h : Nat → Int32} (hJ : zJh w h) {p : Nat} {v : Int32} : zJh (upd w p (v + 1)) (upd h p v) := by
  intro s hs
  rw [yupd32, yupd32]
  by_cases q : s = p
  · rw [if_pos q, if_pos q]
  · rw [if_neg q, if_neg q]
    exact hJ s hs
theorem zmp1 {v : Int32} (h : v = -1 ∨ vp_in v 6) : (v + 1 ≤ 0 ↔ v = -1) ∧ (v + 1 = 0 ↔ v = -1) ∧ (v + 1) - 1 = v ∧ (v + 1).toInt = v.toInt + 1 := by
  have e0 : (0 : Int32).toInt = 0 := rfl
  have e1 : (1 : Int32).toInt = 1 := rfl
  have em : (-1 : Int32).toInt = -1 := rfl
  rcases h with h | h
  · subst h
    exact ⟨⟨fun _ => rfl, fun _ => by decide⟩, ⟨fun _ => rfl, fun _ => by decide⟩, by decide, by decide⟩
  · have h1 := vp_in_iff.mp h
    have e := zaT (a := v) (b := 1) (by omega) (by omega)
    have hn : ¬ v = -1 := fun q => by rw [q, em] at h1; omega
    refine ⟨⟨fun q => ?_, fun q => absurd q hn⟩, ⟨fun q => ?_, fun q => absurd q hn⟩, ?_, by omega⟩
    · rw [Int32.le_iff_toInt_le] at q
      omega
    · rw [q] at e
      omega
    · apply Int32.toInt_inj.mp
      rw [zsT (by omega) (by omega)]
      omega
theorem znone {x il : Int32} (hx : vp_in x 64) : x &&& (il ^^^ (-1)) = 0 ↔ ∀ j : Nat, j < 6 → ¬ (yi x j ∧ ¬ yi il j) := by
  constructor
  · intro h j hj q
    have h2 : yi (x &&& (il ^^^ (-1))) j := (yi_and _ _ _).mpr ⟨q.1, (yi_not _ (by omega)).mpr q.2⟩
    rw [h] at h2
    exact yi_0 j h2
  · intro h
    apply yi_ext
    intro m hm
    rw [yi_and, yi_not _ hm]
    refine ⟨fun q => absurd q ?_, fun q => absurd q (yi_0 m)⟩
    have h3 := ytb (zin_lt hx) ((yi_x hx m).mp q.1)
    exact h m h3
theorem zL58 (vk vh vc vg : Nat → Int32) (p1 : Int32) (ki fi se th kT0 hT0 kn ho : Nat → Int32) (size on il ba p0 : Int32) (hg0 : vg ((0 : Int32)).toNatClampNeg = size) (hg1 : vg ((1 : Int32)).toNatClampNeg = il) (hg2 : vg ((2 : Int32)).toNatClampNeg = ba) (hsz : size.toInt ≤ 12) (hvc : ∀ j : Nat, j < 12 → vc j = zcd (ki j) (fi j) (se j) (th j)) (hKI : ∀ j : Nat, j < 12 → vp_in (ki j) 5) (hFI : ∀ j : Nat, j < 12 → vp_in (fi j) 6) (hSE : ∀ j : Nat, j < 12 → vp_in (se j) 6) (hTH : ∀ j : Nat, j < 12 → vp_in (th j) 4) :
    ∀ (n : Nat) (th2 wh2 kT hT : Nat → Int32) (n1 : Int32), 0 ≤ n1.toInt → zJk th2 kT → zJh wh2 hT → (∀ s : Nat, s < 4 → vp_in (kT s) 64) → (∀ s : Nat, s < 4 → hT s = -1 ∨ vp_in (hT s) 6) →
      lL_closes_58_r vk vh vc vg p1 n th2 wh2 n1 = lX3_canBeClosed_20_r ki fi se th size on il ba kT0 hT0 kn ho p0 n kT hT n1 := by
  intro n
  induction n with
  | zero =>
    intro th2 wh2 kT hT n1 h0 h1 h2 h3 h4
    rw [lL_closes_58_r, lX3_canBeClosed_20_r]
  | succ n ih =>
    intro th2 wh2 kT hT n1 h0 hk hh hk64 hh6
    rw [lL_closes_58_r, lX3_canBeClosed_20_r, hg0]
    by_cases hc : size ≤ n1
    · rw [if_pos hc, if_pos hc]
    rw [if_neg hc, if_neg hc]
    have hI := zInc hc
    have hn := yidx h0 hc hsz
    have rk := hKI _ hn
    have ra := hFI _ hn
    have rb := hSE _ hn
    have rw_ := hTH _ hn
    have hlt := zin_lt rw_
    have eW : vc n1.toNatClampNeg / (512 : Int32) = th n1.toNatClampNeg := by rw [hvc _ hn, zcd_w rk ra rb rw_]
    have eB : zRem (vc n1.toNatClampNeg / (64 : Int32)) (8 : Int32) = se n1.toNatClampNeg := by rw [hvc _ hn, zcd_b rk ra rb rw_]
    have eA : zRem (vc n1.toNatClampNeg / (8 : Int32)) (8 : Int32) = fi n1.toNatClampNeg := by rw [hvc _ hn, zcd_a rk ra rb rw_]
    have eK : zRem (vc n1.toNatClampNeg) (8 : Int32) = ki n1.toNatClampNeg := by rw [hvc _ hn, zcd_k rk ra rb rw_]
    have ht := zL156 vk vh vc vg p1 th2 wh2 n1 il _ (fun m => yi (kT (th n1.toNatClampNeg).toNatClampNeg) m) eW rw_ hg1 (fun m hm => hk m _ hm hlt) 7 0 0 (by decide) (by decide) (by decide)
    have ht2 := zL212 vk vh vc vg p1 th2 wh2 n1 size ki fi se th hg0 hsz hvc hKI hFI hSE hTH hn 14 (lL_closes_156_by1 vk vh vc vg p1 th2 wh2 n1 7 0 0) (n1 + 1) (by omega) (by omega) (by decide)
    have hL := yLf ki fi se th size (n1 + 1) (th n1.toNatClampNeg) hsz hSE (by omega) (zin_lt ra)
    have hwh := hh _ hlt
    have hgh := hh6 _ hlt
    rw [eK, eA, eB, hg1, zLI, zLI]
    unfold qL_closes_145_r qL_closes_321_r qL_closes_378_r
    rw [eK, eA, eB, eW, hg1, hg2, zLI, zLI, zc4m rb rw_, zc4m ra rw_, hwh]
    have c1 := zB1 (hk _ _ (zin_lt rb) hlt)
    have c0 := zB0 (hk _ _ (zin_lt ra) hlt)
    have i1 := yi_is0 (x := kT (th n1.toNatClampNeg).toNatClampNeg) rb
    have i2 := yi_is0 (x := kT (th n1.toNatClampNeg).toNatClampNeg) ra
    have i3 := yi_is0 (x := rX0_listenersFrom ki fi se th size (n1 + 1) (th n1.toNatClampNeg)) ra
    have hno := znone (il := il) (hk64 _ hlt)
    obtain ⟨m1, m2, m3, m4⟩ := zmp1 hgh
    unfold rX3_canBeDone oX3_canBeDone_kT oX3_canBeDone_hT
    by_cases h1 : rX7_isIn il (fi n1.toNatClampNeg) = 0
    case neg => rw [if_neg h1, if_neg h1, if_pos rfl]
    rw [if_pos h1, if_pos h1, if_pos h1, if_pos h1]
    by_cases k2 : ki n1.toNatClampNeg = 2
    · have k0 : ¬ ki n1.toNatClampNeg = 0 := by rw [k2]; decide
      have k1 : ¬ ki n1.toNatClampNeg = 1 := by rw [k2]; decide
      simp only [if_pos k2, if_neg k0, if_neg k1, ite_self]
      rw [if_neg (show ¬ (1 : Int32) = 0 by decide)]
      exact ih _ _ _ _ (n1 + 1) (by omega) hk hh hk64 hh6
    by_cases k3 : ki n1.toNatClampNeg = 3
    · have k0 : ¬ ki n1.toNatClampNeg = 0 := by rw [k3]; decide
      have k1 : ¬ ki n1.toNatClampNeg = 1 := by rw [k3]; decide
      simp only [if_neg k2, if_pos k3, if_neg k0, if_neg k1, ite_self]
      rw [if_neg (show ¬ (1 : Int32) = 0 by decide)]
      exact ih _ _ _ _ (n1 + 1) (by omega) hk hh hk64 hh6
    by_cases h2 : rX7_isIn il (se n1.toNatClampNeg) = 0
    case neg =>
      simp only [if_neg k2, if_neg k3, if_neg h2, if_true]
    simp only [if_neg k2, if_neg k3, if_pos h2]
    by_cases k0 : ki n1.toNatClampNeg = 0
    · simp only [if_pos k0]
      unfold rX3_canBeTold oX3_canBeTold_kT rX3_canHear rX2_isKnower
      by_cases b1 : rX7_isIn ba (th n1.toNatClampNeg) = 0
      case neg => simp only [if_neg b1, if_true]
      simp only [if_pos b1]
      by_cases b2 : rX7_isIn (kT (th n1.toNatClampNeg).toNatClampNeg) (se n1.toNatClampNeg) = 0
      case neg =>
        simp only [if_neg b2, if_pos (c1.mpr (Classical.byContradiction (fun q => b2 (i1.mpr q)))), if_true]
      have b2' : ¬ th2 (4 * (se n1.toNatClampNeg).toNatClampNeg + (th n1.toNatClampNeg).toNatClampNeg) = (1 : Int32) := fun q => (i1.mp b2) (c1.mp q)
      simp only [if_pos b2, if_neg b2']
      have fin : zJk (upd (upd th2 (4 * (fi n1.toNatClampNeg).toNatClampNeg + (th n1.toNatClampNeg).toNatClampNeg) (1 : Int32)) (4 * (se n1.toNatClampNeg).toNatClampNeg + (th n1.toNatClampNeg).toNatClampNeg) (1 : Int32)) (oX2_learn_fk (oX2_learn_fk kT hT (fi n1.toNatClampNeg) (th n1.toNatClampNeg)) hT (se n1.toNatClampNeg) (th n1.toNatClampNeg)) := zJk_or (zJk_or hk ra rw_) rb rw_
      have fin2 : ∀ s : Nat, s < 4 → vp_in (oX2_learn_fk (oX2_learn_fk kT hT (fi n1.toNatClampNeg) (th n1.toNatClampNeg)) hT (se n1.toNatClampNeg) (th n1.toNatClampNeg) s) 64 := by
        intro s hs
        unfold oX2_learn_fk
        rw [yupd32, yupd32, yupd32, if_pos rfl]
        split
        · exact v_or (v_or (hk64 _ hlt) ra) rb
        · exact hk64 s hs
      by_cases b3 : rX7_isIn (kT (th n1.toNatClampNeg).toNatClampNeg) (fi n1.toNatClampNeg) = 0
      · have b3' := c0.mpr (i2.mp b3)
        simp only [if_pos b3, if_pos b3']
        have key : lL_closes_212_by2 vk vh vc vg p1 th2 wh2 n1 14 (lL_closes_156_by1 vk vh vc vg p1 th2 wh2 n1 7 0 0) (n1 + 1) = 0 ↔ (kT (th n1.toNatClampNeg).toNatClampNeg &&& (il ^^^ (-1)) = 0 ∨ ¬ rX7_isIn (rX0_listenersFrom ki fi se th size (n1 + 1) (th n1.toNatClampNeg)) (fi n1.toNatClampNeg) = 0) := by
          rw [ht2, ht, hno]
          constructor
          · rintro (a | ⟨j, a1, a2, a3, a4, a5⟩)
            · exact Or.inl (fun j hj => a.2 j (by have e0 : (0 : Int32).toInt = 0 := rfl; omega) hj)
            · exact Or.inr (fun q => (i3.mp q) (hL.mpr ⟨j, a1, a2, a3, a5, by rw [a4]⟩))
          · rintro (a | a)
            · exact Or.inl ⟨rfl, fun j _ hj => a j hj⟩
            · obtain ⟨j, a1, a2, a3, a4, a5⟩ := hL.mp (Classical.byContradiction (fun q => a (i3.mpr q)))
              exact Or.inr ⟨j, a1, a2, a3, (yne (hSE j (by omega)) ra).mpr a5, a4⟩
        by_cases b4 : kT (th n1.toNatClampNeg).toNatClampNeg &&& (il ^^^ (-1)) = 0
        · simp only [if_pos b4, if_pos (key.mpr (Or.inl b4)), if_true]
        · simp only [if_neg b4]
          by_cases b5 : rX7_isIn (rX0_listenersFrom ki fi se th size (n1 + 1) (th n1.toNatClampNeg)) (fi n1.toNatClampNeg) = 0
          · have b6 : ¬ lL_closes_212_by2 vk vh vc vg p1 th2 wh2 n1 14 (lL_closes_156_by1 vk vh vc vg p1 th2 wh2 n1 7 0 0) (n1 + 1) = 0 := fun q => (key.mp q).elim b4 (fun q => q b5)
            simp only [if_pos b5, if_neg b6, if_neg (show ¬ (1 : Int32) = 0 by decide)]
            exact ih _ _ _ _ (n1 + 1) (by omega) fin hh fin2 hh6
          · simp only [if_neg b5, if_pos (key.mpr (Or.inr b5)), if_true]
      · have b3' : ¬ th2 (4 * (fi n1.toNatClampNeg).toNatClampNeg + (th n1.toNatClampNeg).toNatClampNeg) = 0 := fun q => b3 (i2.mpr (c0.mp q))
        simp only [if_neg b3, if_neg b3', if_neg (show ¬ (1 : Int32) = 0 by decide)]
        exact ih _ _ _ _ (n1 + 1) (by omega) fin hh fin2 hh6
    · simp only [if_neg k0]
      by_cases k1 : ki n1.toNatClampNeg = 1
      · simp only [if_pos k1]
        unfold rX3_canBeGiven oX3_canBeGiven_hT
        have fin : zJh (upd wh2 (th n1.toNatClampNeg).toNatClampNeg (se n1.toNatClampNeg + (1 : Int32))) (upd hT (th n1.toNatClampNeg).toNatClampNeg (se n1.toNatClampNeg)) := zJh_upd hh
        have fin2 : ∀ s : Nat, s < 4 → upd hT (th n1.toNatClampNeg).toNatClampNeg (se n1.toNatClampNeg) s = -1 ∨ vp_in (upd hT (th n1.toNatClampNeg).toNatClampNeg (se n1.toNatClampNeg) s) 6 := by
          intro s hs
          rw [yupd32]
          split
          · exact Or.inr rb
          · exact hh6 s hs
        by_cases d1 : hT (th n1.toNatClampNeg).toNatClampNeg = -1
        · simp only [if_pos d1, if_pos (m1.mpr d1), if_neg (show ¬ (1 : Int32) = 0 by decide)]
          exact ih _ _ _ _ (n1 + 1) (by omega) hk fin hk64 fin2
        · simp only [if_neg d1, if_neg (mt m1.mp d1), m3]
          by_cases d2 : rX7_isIn il (hT (th n1.toNatClampNeg).toNatClampNeg) = 0
          · simp only [if_pos d2, if_neg (show ¬ (1 : Int32) = 0 by decide)]
            exact ih _ _ _ _ (n1 + 1) (by omega) hk fin hk64 fin2
          · simp only [if_neg d2, if_true]
      · simp only [if_neg k1, if_neg (show ¬ (1 : Int32) = 0 by decide)]
        exact ih _ _ _ _ (n1 + 1) (by omega) hk hh hk64 hh6
/-- the law's look at the plot is the class's -/
theorem zCC (vk vh vc vg : Nat → Int32) (ki fi se th kT hT kn ho : Nat → Int32) (size on il ba p1 : Int32) (hg0 : vg ((0 : Int32)).toNatClampNeg = size) (hg1 : vg ((1 : Int32)).toNatClampNeg = il) (hg2 : vg ((2 : Int32)).toNatClampNeg = ba) (hsz : size.toInt ≤ 12) (hvc : ∀ j : Nat, j < 12 → vc j = zcd (ki j) (fi j) (se j) (th j)) (hKI : ∀ j : Nat, j < 12 → vp_in (ki j) 5) (hFI : ∀ j : Nat, j < 12 → vp_in (fi j) 6) (hSE : ∀ j : Nat, j < 12 → vp_in (se j) 6) (hTH : ∀ j : Nat, j < 12 → vp_in (th j) 4)
    (h0 : 0 ≤ p1.toInt) (hk : zJk (fun j => vk (24 + j)) kn) (hh : zJh (fun j => vh (4 + j)) ho) (hk64 : ∀ s : Nat, s < 4 → vp_in (kn s) 64) (hh6 : ∀ s : Nat, s < 4 → ho s = -1 ∨ vp_in (ho s) 6) : rL_closes vk vh vc vg p1 = rX3_canBeClosed ki fi se th size on il ba kT hT kn ho p1 := by
  obtain ⟨a1, a2⟩ := zL14a vk vh vc vg p1
  unfold rL_closes
  rw [yCB _ _ _ _ _ _ _ _ _ _ _ _ _ h0]
  refine zL58 vk vh vc vg p1 ki fi se th kT hT kn ho size on il ba p1 hg0 hg1 hg2 hsz hvc hKI hFI hSE hTH 14 _ _ _ _ p1 h0 (fun m s hm hs => ?_) (fun s hs => ?_) (fun s hs => ?_) (fun s hs => ?_)
  · rw [a1 _ (by omega), ycp4 _ _ hs]
    exact hk m s hm hs
  · rw [a2 _ hs, ycp4 _ _ hs]
    exact hh s hs
  · rw [ycp4 _ _ hs]
    exact hk64 s hs
  · rw [ycp4 _ _ hs]
    exact hh6 s hs
