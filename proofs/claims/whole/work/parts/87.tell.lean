/-! telling -/
theorem yt_ite {α : Type} (a b c : Int32) (A B : α) : (if a = 0 then A else (if b = 0 then (if c = 0 then A else B) else A)) = if (¬ a = 0 ∧ b = 0 ∧ ¬ c = 0) then B else A := by
  by_cases h1 : a = 0 <;> by_cases h2 : b = 0 <;> by_cases h3 : c = 0 <;> simp [h1, h2, h3]
theorem yt_ite8 {α : Type} (f a b : Int32) (A B C : α) (h : f = 0) : (if f = 0 then (if a = 0 then A else (if b = 0 then B else A)) else C) = if (¬ a = 0 ∧ b = 0) then B else A := by
  by_cases h1 : a = 0 <;> by_cases h2 : b = 0 <;> simp [h, h1, h2]
theorem yt_f (zh : ZH) (p1 p2 p3 : Int32) (h : xX7_tell zh.ni zh.li zh.mi zh.mv zh.nx zh.al zh.nc zh.nl zh.ki zh.fi zh.se zh.th zh.size zh.on zh.il zh.ba zh.kT zh.hT zh.kn zh.ho p1 p2 p3 = 0) : ¬ rX8_isMask p1 = 0 ∧ ¬ rX8_isMask p2 = 0 ∧ ¬ rX8_isSecret p3 = 0 ∧ zh.ni = 1 ∧ ¬ rX7_isIn (zh.kn p3.toNatClampNeg) p1 = 0 := by
  unfold xX7_tell xX7_needUnlike xX7_needPlay xX7_needOn rX2_isKnower at h
  rw [zqMask, zqMask, zqSecret] at h
  by_cases m1 : rX8_isMask p1 = 0
  · simp [m1] at h
  by_cases m2 : rX8_isMask p2 = 0
  · simp [m1, m2] at h
  by_cases m3 : rX8_isSecret p3 = 0
  · simp [m1, m2, m3] at h
  by_cases m4 : p1 = p2
  · simp [m1, m2, m3, m4] at h
  by_cases m5 : zh.ni = 1
  case neg =>
    simp [m1, m2, m3, m4, m5] at h
  by_cases m6 : rX7_isIn zh.on p1 = 0
  · simp [m1, m2, m3, m4, m5, m6] at h
  by_cases m7 : rX7_isIn zh.on p2 = 0
  · simp [m1, m2, m3, m4, m5, m6, m7] at h
  by_cases m8 : rX7_isIn (zh.kn p3.toNatClampNeg) p1 = 0
  · simp [m1, m2, m3, m4, m5, m6, m7, m8] at h
  exact ⟨m1, m2, m3, m5, m8⟩
theorem yt_x (zh : ZH) (fo : Nat → Int64) (p1 p2 p3 : Int32) : (xX7_tell zh.ni zh.li zh.mi zh.mv zh.nx zh.al zh.nc zh.nl zh.ki zh.fi zh.se zh.th zh.size zh.on zh.il zh.ba zh.kT zh.hT zh.kn zh.ho p1 p2 p3 = 0 → rL_tell zh.ni zh.li zh.mi zh.mv zh.nx zh.al zh.nc zh.nl zh.ki zh.fi zh.se zh.th zh.size zh.on zh.il zh.ba zh.kT zh.hT zh.kn zh.ho fo p1 p2 p3 = 0) ∧ (¬ xX7_tell zh.ni zh.li zh.mi zh.mv zh.nx zh.al zh.nc zh.nl zh.ki zh.fi zh.se zh.th zh.size zh.on zh.il zh.ba zh.kT zh.hT zh.kn zh.ho p1 p2 p3 = 0 → 0 < (rL_tell zh.ni zh.li zh.mi zh.mv zh.nx zh.al zh.nc zh.nl zh.ki zh.fi zh.se zh.th zh.size zh.on zh.il zh.ba zh.kT zh.hT zh.kn zh.ho fo p1 p2 p3).toInt) := by
  unfold rL_tell
  constructor
  · intro h
    rw [if_pos h]
  · intro h
    rw [if_neg h]
    split
    · decide
    · split
      · decide
      · decide
theorem yt_j (zh : ZH) (kt ht : Nat → Int32) (th : Int32) (p1 p2 p3 : Int32) (fo : Nat → Int64) : jX8_tell_109_0 zh.size zh.il zh.ba zh.gs zh.ni zh.li zh.mi zh.nx zh.mv zh.on zh.al zh.nc zh.nl th zh.ki zh.fi zh.se zh.th (zKn zh) (zHo zh) kt ht p1 p2 p3 = rL_tell zh.ni zh.li zh.mi zh.mv zh.nx zh.al zh.nc zh.nl zh.ki zh.fi zh.se zh.th zh.size zh.on zh.il zh.ba zh.kT zh.hT zh.kn zh.ho fo p1 p2 p3 := zN_12 zh kt ht th fo (fun _ => 0) p1 p2 p3 0
theorem yt_f0 (zh : ZH) (kt ht : Nat → Int32) (th : Int32) (p1 p2 p3 : Int32) (h : xX7_tell zh.ni zh.li zh.mi zh.mv zh.nx zh.al zh.nc zh.nl zh.ki zh.fi zh.se zh.th zh.size zh.on zh.il zh.ba zh.kT zh.hT zh.kn zh.ho p1 p2 p3 = 0) : rX8_fails zh.size zh.il zh.ba zh.gs zh.ni zh.li zh.mi zh.nx zh.mv zh.on zh.al zh.nc zh.nl th (jX8_tell_109_0 zh.size zh.il zh.ba zh.gs zh.ni zh.li zh.mi zh.nx zh.mv zh.on zh.al zh.nc zh.nl th zh.ki zh.fi zh.se zh.th (zKn zh) (zHo zh) kt ht p1 p2 p3) = 0 := by
  rw [yt_j zh kt ht th p1 p2 p3 (fun _ => 0), (yt_x zh (fun _ => 0) p1 p2 p3).1 h]
  exact if_pos (by decide)
theorem yt_f1 (zh : ZH) (kt ht : Nat → Int32) (th : Int32) (p1 p2 p3 : Int32) (h : ¬ xX7_tell zh.ni zh.li zh.mi zh.mv zh.nx zh.al zh.nc zh.nl zh.ki zh.fi zh.se zh.th zh.size zh.on zh.il zh.ba zh.kT zh.hT zh.kn zh.ho p1 p2 p3 = 0) : ¬ rX8_fails zh.size zh.il zh.ba zh.gs zh.ni zh.li zh.mi zh.nx zh.mv zh.on zh.al zh.nc zh.nl th (jX8_tell_109_0 zh.size zh.il zh.ba zh.gs zh.ni zh.li zh.mi zh.nx zh.mv zh.on zh.al zh.nc zh.nl th zh.ki zh.fi zh.se zh.th (zKn zh) (zHo zh) kt ht p1 p2 p3) = 0 := by
  have h2 := (yt_x zh (fun _ => 0) p1 p2 p3).2 h
  rw [← yt_j zh kt ht th p1 p2 p3 (fun _ => 0)] at h2
  unfold rX8_fails
  have h3 : ¬ jX8_tell_109_0 zh.size zh.il zh.ba zh.gs zh.ni zh.li zh.mi zh.nx zh.mv zh.on zh.al zh.nc zh.nl th zh.ki zh.fi zh.se zh.th (zKn zh) (zHo zh) kt ht p1 p2 p3 ≤ 0 := by
    rw [Int32.le_iff_toInt_le]
    have e : (0 : Int32).toInt = 0 := rfl
    omega
  rw [if_neg h3]
  decide
theorem yt_d (zh : ZH) (kt ht : Nat → Int32) (th : Int32) (p1 p2 p3 : Int32) (h1 : zh.ni = 1) (h0 : 0 ≤ zh.nx.toInt) (hc : ¬ zh.size ≤ zh.nx) : jX7_tell_120_0 zh.ni zh.li zh.mi zh.mv zh.nx zh.al zh.nc zh.nl zh.ki zh.fi zh.se zh.th zh.size zh.on zh.il zh.ba zh.kT zh.hT zh.kn zh.ho p1 p2 p3 = jX8_tell_170_0 zh.size zh.il zh.ba zh.gs zh.ni zh.li zh.mi zh.nx zh.mv zh.on zh.al zh.nc zh.nl th zh.ki zh.fi zh.se zh.th (zKn zh) (zHo zh) kt ht p1 p2 p3 := by
  have h2 : ¬ zh.nx < 0 := ynn h0
  have hk : zKn zh = zh.kn := by
    unfold zKn
    rw [if_neg (by rw [h1]; decide)]
  unfold jX7_tell_120_0 jX7_tell_90_0 rX0_isJust jX0_isJust_50_0 rX2_isKnower jX8_tell_170_0 rX8_isNext
  rw [hk, zqIn]
  by_cases a1 : rX8_holds (zh.kn p3.toNatClampNeg) p2 = 0 <;> by_cases a2 : zh.ki zh.nx.toNatClampNeg = 0 <;> by_cases a3 : zh.fi zh.nx.toNatClampNeg = p1 <;> by_cases a4 : zh.se zh.nx.toNatClampNeg = p2 <;> by_cases a5 : zh.th zh.nx.toNatClampNeg = p3 <;> simp [a1, a2, a3, a4, a5, h2, hc]
theorem yt_d1 (zh : ZH) (kt ht : Nat → Int32) (th : Int32) (p1 p2 p3 : Int32) (h : ¬ jX8_tell_170_0 zh.size zh.il zh.ba zh.gs zh.ni zh.li zh.mi zh.nx zh.mv zh.on zh.al zh.nc zh.nl th zh.ki zh.fi zh.se zh.th (zKn zh) (zHo zh) kt ht p1 p2 p3 = 0) : jX8_tell_170_0 zh.size zh.il zh.ba zh.gs zh.ni zh.li zh.mi zh.nx zh.mv zh.on zh.al zh.nc zh.nl th zh.ki zh.fi zh.se zh.th (zKn zh) (zHo zh) kt ht p1 p2 p3 = 1 ∧ zh.ki zh.nx.toNatClampNeg = 0 ∧ zh.fi zh.nx.toNatClampNeg = p1 ∧ zh.se zh.nx.toNatClampNeg = p2 ∧ zh.th zh.nx.toNatClampNeg = p3 ∧ rX8_holds ((zKn zh) p3.toNatClampNeg) p2 = 0 := by
  unfold jX8_tell_170_0 rX8_isNext at h ⊢
  by_cases a1 : rX8_holds ((zKn zh) p3.toNatClampNeg) p2 = 0
  case neg =>
    simp [a1] at h
  by_cases a2 : zh.ki zh.nx.toNatClampNeg = 0
  case neg =>
    simp [a1, a2] at h
  by_cases a3 : zh.fi zh.nx.toNatClampNeg = p1
  case neg =>
    simp [a1, a2, a3] at h
  by_cases a4 : zh.se zh.nx.toNatClampNeg = p2
  case neg =>
    simp [a1, a2, a3, a4] at h
  by_cases a5 : zh.th zh.nx.toNatClampNeg = p3
  case neg =>
    simp [a1, a2, a3, a4, a5] at h
  simp [a1, a2, a3, a4, a5]
theorem yt_b (zh : ZH) (kt ht : Nat → Int32) (th : Int32) (p1 p2 p3 : Int32) (hsz : zh.size.toInt ≤ 12) (hFI : ∀ j : Nat, j < 12 → vp_in (zh.fi j) 6) (hSE : ∀ j : Nat, j < 12 → vp_in (zh.se j) 6) (hTH : ∀ j : Nat, j < 12 → vp_in (zh.th j) 4) (hn : zh.ni = 1 → 0 ≤ zh.nx.toInt ∧ zh.nx.toInt < zh.size.toInt) (h : xX7_tell zh.ni zh.li zh.mi zh.mv zh.nx zh.al zh.nc zh.nl zh.ki zh.fi zh.se zh.th zh.size zh.on zh.il zh.ba zh.kT zh.hT zh.kn zh.ho p1 p2 p3 = 0) : (¬ rX8_canClose zh.size zh.il zh.ba zh.gs zh.ni zh.li zh.mi zh.nx zh.mv zh.on zh.al zh.nc zh.nl (oX8_fails_nTh zh.size zh.il zh.ba zh.gs zh.ni zh.li zh.mi zh.nx zh.mv zh.on zh.al zh.nc zh.nl th (jX8_tell_109_0 zh.size zh.il zh.ba zh.gs zh.ni zh.li zh.mi zh.nx zh.mv zh.on zh.al zh.nc zh.nl th zh.ki zh.fi zh.se zh.th (zKn zh) (zHo zh) kt ht p1 p2 p3)) zh.ki zh.fi zh.se zh.th (zKn zh) (zHo zh) kt ht zh.nx = 0 ∧ rX8_canClose zh.size zh.il zh.ba zh.gs zh.ni zh.li zh.mi zh.nx zh.mv zh.on zh.al zh.nc zh.nl (oX8_fails_nTh zh.size zh.il zh.ba zh.gs zh.ni zh.li zh.mi zh.nx zh.mv zh.on zh.al zh.nc zh.nl th (jX8_tell_109_0 zh.size zh.il zh.ba zh.gs zh.ni zh.li zh.mi zh.nx zh.mv zh.on zh.al zh.nc zh.nl th zh.ki zh.fi zh.se zh.th (zKn zh) (zHo zh) kt ht p1 p2 p3)) zh.ki zh.fi zh.se zh.th (upd (zKn zh) (p3).toNatClampNeg (((zKn zh) (p3).toNatClampNeg) ||| ((1 : Int32) <<< (p2 &&& 31)))) (zHo zh) (oX8_canClose_mKt zh.size zh.il zh.ba zh.gs zh.ni zh.li zh.mi zh.nx zh.mv zh.on zh.al zh.nc zh.nl (oX8_fails_nTh zh.size zh.il zh.ba zh.gs zh.ni zh.li zh.mi zh.nx zh.mv zh.on zh.al zh.nc zh.nl th (jX8_tell_109_0 zh.size zh.il zh.ba zh.gs zh.ni zh.li zh.mi zh.nx zh.mv zh.on zh.al zh.nc zh.nl th zh.ki zh.fi zh.se zh.th (zKn zh) (zHo zh) kt ht p1 p2 p3)) zh.ki zh.fi zh.se zh.th (zKn zh) (zHo zh) kt ht zh.nx) (oX8_canClose_mHt zh.size zh.il zh.ba zh.gs zh.ni zh.li zh.mi zh.nx zh.mv zh.on zh.al zh.nc zh.nl (oX8_fails_nTh zh.size zh.il zh.ba zh.gs zh.ni zh.li zh.mi zh.nx zh.mv zh.on zh.al zh.nc zh.nl th (jX8_tell_109_0 zh.size zh.il zh.ba zh.gs zh.ni zh.li zh.mi zh.nx zh.mv zh.on zh.al zh.nc zh.nl th zh.ki zh.fi zh.se zh.th (zKn zh) (zHo zh) kt ht p1 p2 p3)) zh.ki zh.fi zh.se zh.th (zKn zh) (zHo zh) kt ht zh.nx) (zh.nx + (jX8_tell_222_0 zh.size zh.il zh.ba zh.gs zh.ni zh.li zh.mi zh.nx zh.mv zh.on zh.al zh.nc zh.nl th zh.ki zh.fi zh.se zh.th (zKn zh) (zHo zh) kt ht p1 p2 p3)) = 0) ↔ (¬ jX7_tell_90_0 zh.ni zh.li zh.mi zh.mv zh.nx zh.al zh.nc zh.nl zh.ki zh.fi zh.se zh.th zh.size zh.on zh.il zh.ba zh.kT zh.hT zh.kn zh.ho p1 p2 p3 = 0 ∧ jX7_tell_120_0 zh.ni zh.li zh.mi zh.mv zh.nx zh.al zh.nc zh.nl zh.ki zh.fi zh.se zh.th zh.size zh.on zh.il zh.ba zh.kT zh.hT zh.kn zh.ho p1 p2 p3 = 0 ∧ ¬ rX7_wouldSpoil zh.ni zh.li zh.mi zh.mv zh.nx zh.al zh.nc zh.nl zh.ki zh.fi zh.se zh.th zh.size zh.on zh.il zh.ba zh.kT zh.hT zh.kn zh.ho p2 p3 = 0) := by
  obtain ⟨f1, f2, f3, f4, f5⟩ := yt_f zh p1 p2 p3 h
  obtain ⟨h0, hlt⟩ := hn f4
  have hc : ¬ zh.size ≤ zh.nx := by
    rw [Int32.le_iff_toInt_le]
    omega
  have hI := zInc hc
  have hk : zKn zh = zh.kn := by
    unfold zKn
    rw [if_neg (by rw [f4]; decide)]
  have hh : zHo zh = zh.ho := by
    unfold zHo
    rw [if_neg (by rw [f4]; decide)]
  have hp2 := zM8 f2
  have hd := yt_d zh kt ht th p1 p2 p3 f4 h0 hc
  have c1 := yCC zh.ki zh.fi zh.se zh.th zh.kT zh.hT zh.kn zh.ho (zKn zh) (zHo zh) kt ht zh.size zh.on zh.il zh.ba zh.gs zh.ni zh.li zh.mi zh.nx zh.mv zh.on zh.al zh.nc zh.nl (oX8_fails_nTh zh.size zh.il zh.ba zh.gs zh.ni zh.li zh.mi zh.nx zh.mv zh.on zh.al zh.nc zh.nl th (jX8_tell_109_0 zh.size zh.il zh.ba zh.gs zh.ni zh.li zh.mi zh.nx zh.mv zh.on zh.al zh.nc zh.nl th zh.ki zh.fi zh.se zh.th (zKn zh) (zHo zh) kt ht p1 p2 p3)) zh.nx hsz hFI hSE hTH h0 (by rw [hk]; exact yAg_r _) (by rw [hh]; exact yAg_r _)
  have hkb : (upd (zKn zh) (p3).toNatClampNeg (((zKn zh) (p3).toNatClampNeg) ||| ((1 : Int32) <<< (p2 &&& 31)))) = (upd zh.kn (p3).toNatClampNeg ((zh.kn (p3).toNatClampNeg) ||| ((1 : Int32) <<< (p2 &&& 31)))) := by rw [hk]
  by_cases news : rX7_isIn (zh.kn p3.toNatClampNeg) p2 = 0
  · have n7 : ¬ jX7_tell_90_0 zh.ni zh.li zh.mi zh.mv zh.nx zh.al zh.nc zh.nl zh.ki zh.fi zh.se zh.th zh.size zh.on zh.il zh.ba zh.kT zh.hT zh.kn zh.ho p1 p2 p3 = 0 := by
      unfold jX7_tell_90_0 rX2_isKnower
      rw [if_pos news]
      decide
    by_cases d0 : jX8_tell_170_0 zh.size zh.il zh.ba zh.gs zh.ni zh.li zh.mi zh.nx zh.mv zh.on zh.al zh.nc zh.nl th zh.ki zh.fi zh.se zh.th (zKn zh) (zHo zh) kt ht p1 p2 p3 = 0
    · have e2 : jX8_tell_222_0 zh.size zh.il zh.ba zh.gs zh.ni zh.li zh.mi zh.nx zh.mv zh.on zh.al zh.nc zh.nl th zh.ki zh.fi zh.se zh.th (zKn zh) (zHo zh) kt ht p1 p2 p3 = 0 := by
        unfold jX8_tell_222_0
        rw [if_pos d0]
      have c2 := yCC zh.ki zh.fi zh.se zh.th (oX3_canBeClosed_kT zh.ki zh.fi zh.se zh.th zh.size zh.on zh.il zh.ba zh.kT zh.hT zh.kn zh.ho zh.nx) (oX3_canBeClosed_hT zh.ki zh.fi zh.se zh.th zh.size zh.on zh.il zh.ba zh.kT zh.hT zh.kn zh.ho zh.nx) (oX2_learn_fk zh.kn zh.ho p2 p3) zh.ho (upd (zKn zh) (p3).toNatClampNeg (((zKn zh) (p3).toNatClampNeg) ||| ((1 : Int32) <<< (p2 &&& 31)))) (zHo zh) (oX8_canClose_mKt zh.size zh.il zh.ba zh.gs zh.ni zh.li zh.mi zh.nx zh.mv zh.on zh.al zh.nc zh.nl (oX8_fails_nTh zh.size zh.il zh.ba zh.gs zh.ni zh.li zh.mi zh.nx zh.mv zh.on zh.al zh.nc zh.nl th (jX8_tell_109_0 zh.size zh.il zh.ba zh.gs zh.ni zh.li zh.mi zh.nx zh.mv zh.on zh.al zh.nc zh.nl th zh.ki zh.fi zh.se zh.th (zKn zh) (zHo zh) kt ht p1 p2 p3)) zh.ki zh.fi zh.se zh.th (zKn zh) (zHo zh) kt ht zh.nx) (oX8_canClose_mHt zh.size zh.il zh.ba zh.gs zh.ni zh.li zh.mi zh.nx zh.mv zh.on zh.al zh.nc zh.nl (oX8_fails_nTh zh.size zh.il zh.ba zh.gs zh.ni zh.li zh.mi zh.nx zh.mv zh.on zh.al zh.nc zh.nl th (jX8_tell_109_0 zh.size zh.il zh.ba zh.gs zh.ni zh.li zh.mi zh.nx zh.mv zh.on zh.al zh.nc zh.nl th zh.ki zh.fi zh.se zh.th (zKn zh) (zHo zh) kt ht p1 p2 p3)) zh.ki zh.fi zh.se zh.th (zKn zh) (zHo zh) kt ht zh.nx) zh.size zh.on zh.il zh.ba zh.gs zh.ni zh.li zh.mi zh.nx zh.mv zh.on zh.al zh.nc zh.nl (oX8_fails_nTh zh.size zh.il zh.ba zh.gs zh.ni zh.li zh.mi zh.nx zh.mv zh.on zh.al zh.nc zh.nl th (jX8_tell_109_0 zh.size zh.il zh.ba zh.gs zh.ni zh.li zh.mi zh.nx zh.mv zh.on zh.al zh.nc zh.nl th zh.ki zh.fi zh.se zh.th (zKn zh) (zHo zh) kt ht p1 p2 p3)) zh.nx hsz hFI hSE hTH h0 (by rw [hkb]; exact yAg_r _) (by rw [hh]; exact yAg_r _)
      rw [e2, Int32.add_zero, ← c1, ← c2, hd]
      unfold rX7_wouldSpoil
      by_cases q1 : rX3_canBeClosed zh.ki zh.fi zh.se zh.th zh.size zh.on zh.il zh.ba zh.kT zh.hT zh.kn zh.ho zh.nx = 0
      · simp [q1]
      · by_cases q2 : rX3_canBeClosed zh.ki zh.fi zh.se zh.th zh.size zh.on zh.il zh.ba (oX3_canBeClosed_kT zh.ki zh.fi zh.se zh.th zh.size zh.on zh.il zh.ba zh.kT zh.hT zh.kn zh.ho zh.nx) (oX3_canBeClosed_hT zh.ki zh.fi zh.se zh.th zh.size zh.on zh.il zh.ba zh.kT zh.hT zh.kn zh.ho zh.nx) (oX2_learn_fk zh.kn zh.ho p2 p3) zh.ho zh.nx = 0
        · simp [q1, q2, n7, d0]
        · simp [q1, q2]
    · obtain ⟨e1, g1, g2, g3, g4, g5⟩ := yt_d1 zh kt ht th p1 p2 p3 d0
      have e2 : jX8_tell_222_0 zh.size zh.il zh.ba zh.gs zh.ni zh.li zh.mi zh.nx zh.mv zh.on zh.al zh.nc zh.nl th zh.ki zh.fi zh.se zh.th (zKn zh) (zHo zh) kt ht p1 p2 p3 = 1 := by
        unfold jX8_tell_222_0
        rw [if_neg d0]
      have c2 := yCC zh.ki zh.fi zh.se zh.th zh.kT zh.hT (upd zh.kn (p3).toNatClampNeg ((zh.kn (p3).toNatClampNeg) ||| ((1 : Int32) <<< (p2 &&& 31)))) zh.ho (upd (zKn zh) (p3).toNatClampNeg (((zKn zh) (p3).toNatClampNeg) ||| ((1 : Int32) <<< (p2 &&& 31)))) (zHo zh) (oX8_canClose_mKt zh.size zh.il zh.ba zh.gs zh.ni zh.li zh.mi zh.nx zh.mv zh.on zh.al zh.nc zh.nl (oX8_fails_nTh zh.size zh.il zh.ba zh.gs zh.ni zh.li zh.mi zh.nx zh.mv zh.on zh.al zh.nc zh.nl th (jX8_tell_109_0 zh.size zh.il zh.ba zh.gs zh.ni zh.li zh.mi zh.nx zh.mv zh.on zh.al zh.nc zh.nl th zh.ki zh.fi zh.se zh.th (zKn zh) (zHo zh) kt ht p1 p2 p3)) zh.ki zh.fi zh.se zh.th (zKn zh) (zHo zh) kt ht zh.nx) (oX8_canClose_mHt zh.size zh.il zh.ba zh.gs zh.ni zh.li zh.mi zh.nx zh.mv zh.on zh.al zh.nc zh.nl (oX8_fails_nTh zh.size zh.il zh.ba zh.gs zh.ni zh.li zh.mi zh.nx zh.mv zh.on zh.al zh.nc zh.nl th (jX8_tell_109_0 zh.size zh.il zh.ba zh.gs zh.ni zh.li zh.mi zh.nx zh.mv zh.on zh.al zh.nc zh.nl th zh.ki zh.fi zh.se zh.th (zKn zh) (zHo zh) kt ht p1 p2 p3)) zh.ki zh.fi zh.se zh.th (zKn zh) (zHo zh) kt ht zh.nx) zh.size zh.on zh.il zh.ba zh.gs zh.ni zh.li zh.mi zh.nx zh.mv zh.on zh.al zh.nc zh.nl (oX8_fails_nTh zh.size zh.il zh.ba zh.gs zh.ni zh.li zh.mi zh.nx zh.mv zh.on zh.al zh.nc zh.nl th (jX8_tell_109_0 zh.size zh.il zh.ba zh.gs zh.ni zh.li zh.mi zh.nx zh.mv zh.on zh.al zh.nc zh.nl th zh.ki zh.fi zh.se zh.th (zKn zh) (zHo zh) kt ht p1 p2 p3)) (zh.nx + 1) hsz hFI hSE hTH (by omega) (by rw [hkb]; exact yAg_r _) (by rw [hh]; exact yAg_r _)
      rw [e2, hd]
      constructor
      · rintro ⟨q1, q2⟩
        have t := yTD zh.ki zh.fi zh.se zh.th zh.kT zh.hT zh.kT zh.hT zh.kn zh.ho zh.size zh.on zh.il zh.ba zh.nx hsz hFI hSE hTH h0 hc (fun q => q1 (c1.mp q)) g1 (by rw [g2, g4]; exact f5)
        rw [g3, g4] at t
        exact absurd (c2.mpr q2) t
      · rintro ⟨_, q, _⟩
        exact absurd q d0
  · have n7 : jX7_tell_90_0 zh.ni zh.li zh.mi zh.mv zh.nx zh.al zh.nc zh.nl zh.ki zh.fi zh.se zh.th zh.size zh.on zh.il zh.ba zh.kT zh.hT zh.kn zh.ho p1 p2 p3 = 0 := by
      unfold jX7_tell_90_0 rX2_isKnower
      rw [if_neg news]
    have d7 : jX7_tell_120_0 zh.ni zh.li zh.mi zh.mv zh.nx zh.al zh.nc zh.nl zh.ki zh.fi zh.se zh.th zh.size zh.on zh.il zh.ba zh.kT zh.hT zh.kn zh.ho p1 p2 p3 = 0 := by
      unfold jX7_tell_120_0
      rw [if_pos n7]
    have d0 : jX8_tell_170_0 zh.size zh.il zh.ba zh.gs zh.ni zh.li zh.mi zh.nx zh.mv zh.on zh.al zh.nc zh.nl th zh.ki zh.fi zh.se zh.th (zKn zh) (zHo zh) kt ht p1 p2 p3 = 0 := hd.symm.trans d7
    have e2 : jX8_tell_222_0 zh.size zh.il zh.ba zh.gs zh.ni zh.li zh.mi zh.nx zh.mv zh.on zh.al zh.nc zh.nl th zh.ki zh.fi zh.se zh.th (zKn zh) (zHo zh) kt ht p1 p2 p3 = 0 := by
      unfold jX8_tell_222_0
      rw [if_pos d0]
    have hy : yi (zh.kn p3.toNatClampNeg) p2.toNatClampNeg := Classical.byContradiction (fun q => news ((yi_is0 hp2).mpr q))
    have ek : (upd zh.kn (p3).toNatClampNeg ((zh.kn (p3).toNatClampNeg) ||| ((1 : Int32) <<< (p2 &&& 31)))) = zh.kn := by
      rw [yi_abs hp2 hy, zUpS]
    have c2 := yCC zh.ki zh.fi zh.se zh.th zh.kT zh.hT zh.kn zh.ho (upd (zKn zh) (p3).toNatClampNeg (((zKn zh) (p3).toNatClampNeg) ||| ((1 : Int32) <<< (p2 &&& 31)))) (zHo zh) (oX8_canClose_mKt zh.size zh.il zh.ba zh.gs zh.ni zh.li zh.mi zh.nx zh.mv zh.on zh.al zh.nc zh.nl (oX8_fails_nTh zh.size zh.il zh.ba zh.gs zh.ni zh.li zh.mi zh.nx zh.mv zh.on zh.al zh.nc zh.nl th (jX8_tell_109_0 zh.size zh.il zh.ba zh.gs zh.ni zh.li zh.mi zh.nx zh.mv zh.on zh.al zh.nc zh.nl th zh.ki zh.fi zh.se zh.th (zKn zh) (zHo zh) kt ht p1 p2 p3)) zh.ki zh.fi zh.se zh.th (zKn zh) (zHo zh) kt ht zh.nx) (oX8_canClose_mHt zh.size zh.il zh.ba zh.gs zh.ni zh.li zh.mi zh.nx zh.mv zh.on zh.al zh.nc zh.nl (oX8_fails_nTh zh.size zh.il zh.ba zh.gs zh.ni zh.li zh.mi zh.nx zh.mv zh.on zh.al zh.nc zh.nl th (jX8_tell_109_0 zh.size zh.il zh.ba zh.gs zh.ni zh.li zh.mi zh.nx zh.mv zh.on zh.al zh.nc zh.nl th zh.ki zh.fi zh.se zh.th (zKn zh) (zHo zh) kt ht p1 p2 p3)) zh.ki zh.fi zh.se zh.th (zKn zh) (zHo zh) kt ht zh.nx) zh.size zh.on zh.il zh.ba zh.gs zh.ni zh.li zh.mi zh.nx zh.mv zh.on zh.al zh.nc zh.nl (oX8_fails_nTh zh.size zh.il zh.ba zh.gs zh.ni zh.li zh.mi zh.nx zh.mv zh.on zh.al zh.nc zh.nl th (jX8_tell_109_0 zh.size zh.il zh.ba zh.gs zh.ni zh.li zh.mi zh.nx zh.mv zh.on zh.al zh.nc zh.nl th zh.ki zh.fi zh.se zh.th (zKn zh) (zHo zh) kt ht p1 p2 p3)) zh.nx hsz hFI hSE hTH h0 (by rw [hkb, ek]; exact yAg_r _) (by rw [hh]; exact yAg_r _)
    rw [e2, Int32.add_zero, ← c1, ← c2]
    constructor
    · rintro ⟨q1, q2⟩
      exact absurd q2 q1
    · rintro ⟨q, _, _⟩
      exact absurd n7 q
theorem yEM (zh : ZH) (th d : Int32) (h1 : zh.ni = 1) (h0 : 0 ≤ zh.nx.toInt) (hlt : zh.nx.toInt < zh.size.toInt) (hsz : zh.size.toInt ≤ 12) : oX7_endMove_ni zh.ni zh.li zh.mi zh.mv zh.nx zh.al zh.nc zh.nl zh.ki zh.fi zh.se zh.th zh.size d = oX8_moved_nNs zh.size zh.il zh.ba zh.gs zh.ni zh.li zh.mi zh.nx zh.mv zh.on zh.al zh.nc zh.nl th d ∧ oX7_endMove_mi zh.ni zh.li zh.mi zh.mv zh.nx zh.al zh.nc zh.nl zh.ki zh.fi zh.se zh.th zh.size d = oX8_moved_nMi zh.size zh.il zh.ba zh.gs zh.ni zh.li zh.mi zh.nx zh.mv zh.on zh.al zh.nc zh.nl th d ∧ oX7_endMove_mv zh.ni zh.li zh.mi zh.mv zh.nx zh.al zh.nc zh.nl zh.ki zh.fi zh.se zh.th zh.size d = oX8_moved_nMv zh.size zh.il zh.ba zh.gs zh.ni zh.li zh.mi zh.nx zh.mv zh.on zh.al zh.nc zh.nl th d ∧ oX7_endMove_nx zh.ni zh.li zh.mi zh.mv zh.nx zh.al zh.nc zh.nl zh.ki zh.fi zh.se zh.th zh.size d = oX8_moved_nNx zh.size zh.il zh.ba zh.gs zh.ni zh.li zh.mi zh.nx zh.mv zh.on zh.al zh.nc zh.nl th d ∧ oX7_endMove_nc zh.ni zh.li zh.mi zh.mv zh.nx zh.al zh.nc zh.nl zh.ki zh.fi zh.se zh.th zh.size d = oX8_moved_nCl zh.size zh.il zh.ba zh.gs zh.ni zh.li zh.mi zh.nx zh.mv zh.on zh.al zh.nc zh.nl th d ∧ oX7_endMove_nl zh.ni zh.li zh.mi zh.mv zh.nx zh.al zh.nc zh.nl zh.ki zh.fi zh.se zh.th zh.size d = oX8_moved_nLn zh.size zh.il zh.ba zh.gs zh.ni zh.li zh.mi zh.nx zh.mv zh.on zh.al zh.nc zh.nl th d := by
  have hc : ¬ zh.size ≤ zh.nx := by
    rw [Int32.le_iff_toInt_le]
    omega
  have hI := zInc hc
  have hx : ¬ zh.nx = zh.size := fun q => by rw [q] at hlt; omega
  have hq : zh.nx + 1 < zh.size ↔ ¬ zh.nx + 1 = zh.size := by
    rw [Int32.lt_iff_toInt_lt, hI]
    constructor
    · intro q q2
      rw [← q2, hI] at q
      omega
    · intro q
      have q3 : (zh.nx + 1).toInt ≠ zh.size.toInt := fun q2 => q (Int32.toInt_inj.mp q2)
      omega
  by_cases d0 : d = 0 <;> by_cases a1 : zh.nx + 1 = zh.size <;> by_cases a2 : zh.mi + 1 < zh.li <;> simp [oX7_endMove_ni, oX8_moved_nNs, oX7_endMove_mi, oX8_moved_nMi, oX7_endMove_mv, oX8_moved_nMv, oX7_endMove_nx, oX8_moved_nNx, oX7_endMove_nc, oX8_moved_nCl, oX7_endMove_nl, oX8_moved_nLn, oX7_passMinutes_ni, oX7_passMinutes_mi, oX7_passMinutes_nl, jX7_endMove_53_0, jX7_endMove_53_1, jX7_endMove_53_2, oX8_goesBy_nNs, oX8_goesBy_nMi, oX8_goesBy_nCl, oX8_goesBy_nLn, jX8_moved_14_0, d0, a1, a2, h1, hx, hq]
theorem yEMn (zh : ZH) (d : Int32) (h1 : zh.ni = 1) : ¬ oX7_endMove_ni zh.ni zh.li zh.mi zh.mv zh.nx zh.al zh.nc zh.nl zh.ki zh.fi zh.se zh.th zh.size d = 0 := by
  unfold oX7_endMove_ni oX7_passMinutes_ni jX7_endMove_53_0
  rw [h1]
  repeat' split
  all_goals decide
theorem yt_ni (zh : ZH) (kt ht : Nat → Int32) (th : Int32) (p1 p2 p3 : Int32) (fo : Nat → Int64) (hsz : zh.size.toInt ≤ 12) (hFI : ∀ j : Nat, j < 12 → vp_in (zh.fi j) 6) (hSE : ∀ j : Nat, j < 12 → vp_in (zh.se j) 6) (hTH : ∀ j : Nat, j < 12 → vp_in (zh.th j) 4) (hn : zh.ni = 1 → 0 ≤ zh.nx.toInt ∧ zh.nx.toInt < zh.size.toInt) : oX8_tell_nNs zh.size zh.il zh.ba zh.gs zh.ni zh.li zh.mi zh.nx zh.mv zh.on zh.al zh.nc zh.nl th zh.ki zh.fi zh.se zh.th (zKn zh) (zHo zh) kt ht p1 p2 p3 = oL_tell_ni zh.ni zh.li zh.mi zh.mv zh.nx zh.al zh.nc zh.nl zh.ki zh.fi zh.se zh.th zh.size zh.on zh.il zh.ba zh.kT zh.hT zh.kn zh.ho fo p1 p2 p3 := by
  unfold oL_tell_ni
  by_cases h : xX7_tell zh.ni zh.li zh.mi zh.mv zh.nx zh.al zh.nc zh.nl zh.ki zh.fi zh.se zh.th zh.size zh.on zh.il zh.ba zh.kT zh.hT zh.kn zh.ho p1 p2 p3 = 0
  · obtain ⟨f1, f2, f3, f4, f5⟩ := yt_f zh p1 p2 p3 h
    obtain ⟨h0, hlt⟩ := hn f4
    have hc : ¬ zh.size ≤ zh.nx := by
      rw [Int32.le_iff_toInt_le]
      omega
    have hb := yt_b zh kt ht th p1 p2 p3 hsz hFI hSE hTH hn h
    have hd := yt_d zh kt ht th p1 p2 p3 f4 h0 hc
    have he := yEM zh (oX8_fails_nTh zh.size zh.il zh.ba zh.gs zh.ni zh.li zh.mi zh.nx zh.mv zh.on zh.al zh.nc zh.nl th (jX8_tell_109_0 zh.size zh.il zh.ba zh.gs zh.ni zh.li zh.mi zh.nx zh.mv zh.on zh.al zh.nc zh.nl th zh.ki zh.fi zh.se zh.th (zKn zh) (zHo zh) kt ht p1 p2 p3)) (jX8_tell_170_0 zh.size zh.il zh.ba zh.gs zh.ni zh.li zh.mi zh.nx zh.mv zh.on zh.al zh.nc zh.nl th zh.ki zh.fi zh.se zh.th (zKn zh) (zHo zh) kt ht p1 p2 p3) f4 h0 hlt hsz
    rw [if_pos h]
    refine (yt_ite8 _ _ _ _ _ _ (yt_f0 zh kt ht th p1 p2 p3 h)).trans ?_
    refine Eq.trans ?_ (yt_ite _ _ _ _ _).symm
    rw [hd, he.1]
    rw [hd] at hb
    by_cases q : (¬ jX7_tell_90_0 zh.ni zh.li zh.mi zh.mv zh.nx zh.al zh.nc zh.nl zh.ki zh.fi zh.se zh.th zh.size zh.on zh.il zh.ba zh.kT zh.hT zh.kn zh.ho p1 p2 p3 = 0 ∧ jX8_tell_170_0 zh.size zh.il zh.ba zh.gs zh.ni zh.li zh.mi zh.nx zh.mv zh.on zh.al zh.nc zh.nl th zh.ki zh.fi zh.se zh.th (zKn zh) (zHo zh) kt ht p1 p2 p3 = 0 ∧ ¬ rX7_wouldSpoil zh.ni zh.li zh.mi zh.mv zh.nx zh.al zh.nc zh.nl zh.ki zh.fi zh.se zh.th zh.size zh.on zh.il zh.ba zh.kT zh.hT zh.kn zh.ho p2 p3 = 0)
    · rw [if_pos q, if_pos (hb.mpr q)]
    · rw [if_neg q, if_neg (fun z => q (hb.mp z))]
  · rw [if_neg h]
    unfold oX8_tell_nNs
    rw [if_neg (yt_f1 zh kt ht th p1 p2 p3 h)]
theorem yt_mi (zh : ZH) (kt ht : Nat → Int32) (th : Int32) (p1 p2 p3 : Int32) (fo : Nat → Int64) (hsz : zh.size.toInt ≤ 12) (hFI : ∀ j : Nat, j < 12 → vp_in (zh.fi j) 6) (hSE : ∀ j : Nat, j < 12 → vp_in (zh.se j) 6) (hTH : ∀ j : Nat, j < 12 → vp_in (zh.th j) 4) (hn : zh.ni = 1 → 0 ≤ zh.nx.toInt ∧ zh.nx.toInt < zh.size.toInt) : oX8_tell_nMi zh.size zh.il zh.ba zh.gs zh.ni zh.li zh.mi zh.nx zh.mv zh.on zh.al zh.nc zh.nl th zh.ki zh.fi zh.se zh.th (zKn zh) (zHo zh) kt ht p1 p2 p3 = oL_tell_mi zh.ni zh.li zh.mi zh.mv zh.nx zh.al zh.nc zh.nl zh.ki zh.fi zh.se zh.th zh.size zh.on zh.il zh.ba zh.kT zh.hT zh.kn zh.ho fo p1 p2 p3 := by
  unfold oL_tell_mi
  by_cases h : xX7_tell zh.ni zh.li zh.mi zh.mv zh.nx zh.al zh.nc zh.nl zh.ki zh.fi zh.se zh.th zh.size zh.on zh.il zh.ba zh.kT zh.hT zh.kn zh.ho p1 p2 p3 = 0
  · obtain ⟨f1, f2, f3, f4, f5⟩ := yt_f zh p1 p2 p3 h
    obtain ⟨h0, hlt⟩ := hn f4
    have hc : ¬ zh.size ≤ zh.nx := by
      rw [Int32.le_iff_toInt_le]
      omega
    have hb := yt_b zh kt ht th p1 p2 p3 hsz hFI hSE hTH hn h
    have hd := yt_d zh kt ht th p1 p2 p3 f4 h0 hc
    have he := yEM zh (oX8_fails_nTh zh.size zh.il zh.ba zh.gs zh.ni zh.li zh.mi zh.nx zh.mv zh.on zh.al zh.nc zh.nl th (jX8_tell_109_0 zh.size zh.il zh.ba zh.gs zh.ni zh.li zh.mi zh.nx zh.mv zh.on zh.al zh.nc zh.nl th zh.ki zh.fi zh.se zh.th (zKn zh) (zHo zh) kt ht p1 p2 p3)) (jX8_tell_170_0 zh.size zh.il zh.ba zh.gs zh.ni zh.li zh.mi zh.nx zh.mv zh.on zh.al zh.nc zh.nl th zh.ki zh.fi zh.se zh.th (zKn zh) (zHo zh) kt ht p1 p2 p3) f4 h0 hlt hsz
    rw [if_pos h]
    refine (yt_ite8 _ _ _ _ _ _ (yt_f0 zh kt ht th p1 p2 p3 h)).trans ?_
    refine Eq.trans ?_ (yt_ite _ _ _ _ _).symm
    rw [hd, he.2.1]
    rw [hd] at hb
    by_cases q : (¬ jX7_tell_90_0 zh.ni zh.li zh.mi zh.mv zh.nx zh.al zh.nc zh.nl zh.ki zh.fi zh.se zh.th zh.size zh.on zh.il zh.ba zh.kT zh.hT zh.kn zh.ho p1 p2 p3 = 0 ∧ jX8_tell_170_0 zh.size zh.il zh.ba zh.gs zh.ni zh.li zh.mi zh.nx zh.mv zh.on zh.al zh.nc zh.nl th zh.ki zh.fi zh.se zh.th (zKn zh) (zHo zh) kt ht p1 p2 p3 = 0 ∧ ¬ rX7_wouldSpoil zh.ni zh.li zh.mi zh.mv zh.nx zh.al zh.nc zh.nl zh.ki zh.fi zh.se zh.th zh.size zh.on zh.il zh.ba zh.kT zh.hT zh.kn zh.ho p2 p3 = 0)
    · rw [if_pos q, if_pos (hb.mpr q)]
    · rw [if_neg q, if_neg (fun z => q (hb.mp z))]
  · rw [if_neg h]
    unfold oX8_tell_nMi
    rw [if_neg (yt_f1 zh kt ht th p1 p2 p3 h)]
theorem yt_mv (zh : ZH) (kt ht : Nat → Int32) (th : Int32) (p1 p2 p3 : Int32) (fo : Nat → Int64) (hsz : zh.size.toInt ≤ 12) (hFI : ∀ j : Nat, j < 12 → vp_in (zh.fi j) 6) (hSE : ∀ j : Nat, j < 12 → vp_in (zh.se j) 6) (hTH : ∀ j : Nat, j < 12 → vp_in (zh.th j) 4) (hn : zh.ni = 1 → 0 ≤ zh.nx.toInt ∧ zh.nx.toInt < zh.size.toInt) : oX8_tell_nMv zh.size zh.il zh.ba zh.gs zh.ni zh.li zh.mi zh.nx zh.mv zh.on zh.al zh.nc zh.nl th zh.ki zh.fi zh.se zh.th (zKn zh) (zHo zh) kt ht p1 p2 p3 = oL_tell_mv zh.ni zh.li zh.mi zh.mv zh.nx zh.al zh.nc zh.nl zh.ki zh.fi zh.se zh.th zh.size zh.on zh.il zh.ba zh.kT zh.hT zh.kn zh.ho fo p1 p2 p3 := by
  unfold oL_tell_mv
  by_cases h : xX7_tell zh.ni zh.li zh.mi zh.mv zh.nx zh.al zh.nc zh.nl zh.ki zh.fi zh.se zh.th zh.size zh.on zh.il zh.ba zh.kT zh.hT zh.kn zh.ho p1 p2 p3 = 0
  · obtain ⟨f1, f2, f3, f4, f5⟩ := yt_f zh p1 p2 p3 h
    obtain ⟨h0, hlt⟩ := hn f4
    have hc : ¬ zh.size ≤ zh.nx := by
      rw [Int32.le_iff_toInt_le]
      omega
    have hb := yt_b zh kt ht th p1 p2 p3 hsz hFI hSE hTH hn h
    have hd := yt_d zh kt ht th p1 p2 p3 f4 h0 hc
    have he := yEM zh (oX8_fails_nTh zh.size zh.il zh.ba zh.gs zh.ni zh.li zh.mi zh.nx zh.mv zh.on zh.al zh.nc zh.nl th (jX8_tell_109_0 zh.size zh.il zh.ba zh.gs zh.ni zh.li zh.mi zh.nx zh.mv zh.on zh.al zh.nc zh.nl th zh.ki zh.fi zh.se zh.th (zKn zh) (zHo zh) kt ht p1 p2 p3)) (jX8_tell_170_0 zh.size zh.il zh.ba zh.gs zh.ni zh.li zh.mi zh.nx zh.mv zh.on zh.al zh.nc zh.nl th zh.ki zh.fi zh.se zh.th (zKn zh) (zHo zh) kt ht p1 p2 p3) f4 h0 hlt hsz
    rw [if_pos h]
    refine (yt_ite8 _ _ _ _ _ _ (yt_f0 zh kt ht th p1 p2 p3 h)).trans ?_
    refine Eq.trans ?_ (yt_ite _ _ _ _ _).symm
    rw [hd, he.2.2.1]
    rw [hd] at hb
    by_cases q : (¬ jX7_tell_90_0 zh.ni zh.li zh.mi zh.mv zh.nx zh.al zh.nc zh.nl zh.ki zh.fi zh.se zh.th zh.size zh.on zh.il zh.ba zh.kT zh.hT zh.kn zh.ho p1 p2 p3 = 0 ∧ jX8_tell_170_0 zh.size zh.il zh.ba zh.gs zh.ni zh.li zh.mi zh.nx zh.mv zh.on zh.al zh.nc zh.nl th zh.ki zh.fi zh.se zh.th (zKn zh) (zHo zh) kt ht p1 p2 p3 = 0 ∧ ¬ rX7_wouldSpoil zh.ni zh.li zh.mi zh.mv zh.nx zh.al zh.nc zh.nl zh.ki zh.fi zh.se zh.th zh.size zh.on zh.il zh.ba zh.kT zh.hT zh.kn zh.ho p2 p3 = 0)
    · rw [if_pos q, if_pos (hb.mpr q)]
    · rw [if_neg q, if_neg (fun z => q (hb.mp z))]
  · rw [if_neg h]
    unfold oX8_tell_nMv
    rw [if_neg (yt_f1 zh kt ht th p1 p2 p3 h)]
theorem yt_nx (zh : ZH) (kt ht : Nat → Int32) (th : Int32) (p1 p2 p3 : Int32) (fo : Nat → Int64) (hsz : zh.size.toInt ≤ 12) (hFI : ∀ j : Nat, j < 12 → vp_in (zh.fi j) 6) (hSE : ∀ j : Nat, j < 12 → vp_in (zh.se j) 6) (hTH : ∀ j : Nat, j < 12 → vp_in (zh.th j) 4) (hn : zh.ni = 1 → 0 ≤ zh.nx.toInt ∧ zh.nx.toInt < zh.size.toInt) : oX8_tell_nNx zh.size zh.il zh.ba zh.gs zh.ni zh.li zh.mi zh.nx zh.mv zh.on zh.al zh.nc zh.nl th zh.ki zh.fi zh.se zh.th (zKn zh) (zHo zh) kt ht p1 p2 p3 = oL_tell_nx zh.ni zh.li zh.mi zh.mv zh.nx zh.al zh.nc zh.nl zh.ki zh.fi zh.se zh.th zh.size zh.on zh.il zh.ba zh.kT zh.hT zh.kn zh.ho fo p1 p2 p3 := by
  unfold oL_tell_nx
  by_cases h : xX7_tell zh.ni zh.li zh.mi zh.mv zh.nx zh.al zh.nc zh.nl zh.ki zh.fi zh.se zh.th zh.size zh.on zh.il zh.ba zh.kT zh.hT zh.kn zh.ho p1 p2 p3 = 0
  · obtain ⟨f1, f2, f3, f4, f5⟩ := yt_f zh p1 p2 p3 h
    obtain ⟨h0, hlt⟩ := hn f4
    have hc : ¬ zh.size ≤ zh.nx := by
      rw [Int32.le_iff_toInt_le]
      omega
    have hb := yt_b zh kt ht th p1 p2 p3 hsz hFI hSE hTH hn h
    have hd := yt_d zh kt ht th p1 p2 p3 f4 h0 hc
    have he := yEM zh (oX8_fails_nTh zh.size zh.il zh.ba zh.gs zh.ni zh.li zh.mi zh.nx zh.mv zh.on zh.al zh.nc zh.nl th (jX8_tell_109_0 zh.size zh.il zh.ba zh.gs zh.ni zh.li zh.mi zh.nx zh.mv zh.on zh.al zh.nc zh.nl th zh.ki zh.fi zh.se zh.th (zKn zh) (zHo zh) kt ht p1 p2 p3)) (jX8_tell_170_0 zh.size zh.il zh.ba zh.gs zh.ni zh.li zh.mi zh.nx zh.mv zh.on zh.al zh.nc zh.nl th zh.ki zh.fi zh.se zh.th (zKn zh) (zHo zh) kt ht p1 p2 p3) f4 h0 hlt hsz
    rw [if_pos h]
    refine (yt_ite8 _ _ _ _ _ _ (yt_f0 zh kt ht th p1 p2 p3 h)).trans ?_
    refine Eq.trans ?_ (yt_ite _ _ _ _ _).symm
    rw [hd, he.2.2.2.1]
    rw [hd] at hb
    by_cases q : (¬ jX7_tell_90_0 zh.ni zh.li zh.mi zh.mv zh.nx zh.al zh.nc zh.nl zh.ki zh.fi zh.se zh.th zh.size zh.on zh.il zh.ba zh.kT zh.hT zh.kn zh.ho p1 p2 p3 = 0 ∧ jX8_tell_170_0 zh.size zh.il zh.ba zh.gs zh.ni zh.li zh.mi zh.nx zh.mv zh.on zh.al zh.nc zh.nl th zh.ki zh.fi zh.se zh.th (zKn zh) (zHo zh) kt ht p1 p2 p3 = 0 ∧ ¬ rX7_wouldSpoil zh.ni zh.li zh.mi zh.mv zh.nx zh.al zh.nc zh.nl zh.ki zh.fi zh.se zh.th zh.size zh.on zh.il zh.ba zh.kT zh.hT zh.kn zh.ho p2 p3 = 0)
    · rw [if_pos q, if_pos (hb.mpr q)]
    · rw [if_neg q, if_neg (fun z => q (hb.mp z))]
  · rw [if_neg h]
    unfold oX8_tell_nNx
    rw [if_neg (yt_f1 zh kt ht th p1 p2 p3 h)]
theorem yt_nc (zh : ZH) (kt ht : Nat → Int32) (th : Int32) (p1 p2 p3 : Int32) (fo : Nat → Int64) (hsz : zh.size.toInt ≤ 12) (hFI : ∀ j : Nat, j < 12 → vp_in (zh.fi j) 6) (hSE : ∀ j : Nat, j < 12 → vp_in (zh.se j) 6) (hTH : ∀ j : Nat, j < 12 → vp_in (zh.th j) 4) (hn : zh.ni = 1 → 0 ≤ zh.nx.toInt ∧ zh.nx.toInt < zh.size.toInt) : oX8_tell_nCl zh.size zh.il zh.ba zh.gs zh.ni zh.li zh.mi zh.nx zh.mv zh.on zh.al zh.nc zh.nl th zh.ki zh.fi zh.se zh.th (zKn zh) (zHo zh) kt ht p1 p2 p3 = oL_tell_nc zh.ni zh.li zh.mi zh.mv zh.nx zh.al zh.nc zh.nl zh.ki zh.fi zh.se zh.th zh.size zh.on zh.il zh.ba zh.kT zh.hT zh.kn zh.ho fo p1 p2 p3 := by
  unfold oL_tell_nc
  by_cases h : xX7_tell zh.ni zh.li zh.mi zh.mv zh.nx zh.al zh.nc zh.nl zh.ki zh.fi zh.se zh.th zh.size zh.on zh.il zh.ba zh.kT zh.hT zh.kn zh.ho p1 p2 p3 = 0
  · obtain ⟨f1, f2, f3, f4, f5⟩ := yt_f zh p1 p2 p3 h
    obtain ⟨h0, hlt⟩ := hn f4
    have hc : ¬ zh.size ≤ zh.nx := by
      rw [Int32.le_iff_toInt_le]
      omega
    have hb := yt_b zh kt ht th p1 p2 p3 hsz hFI hSE hTH hn h
    have hd := yt_d zh kt ht th p1 p2 p3 f4 h0 hc
    have he := yEM zh (oX8_fails_nTh zh.size zh.il zh.ba zh.gs zh.ni zh.li zh.mi zh.nx zh.mv zh.on zh.al zh.nc zh.nl th (jX8_tell_109_0 zh.size zh.il zh.ba zh.gs zh.ni zh.li zh.mi zh.nx zh.mv zh.on zh.al zh.nc zh.nl th zh.ki zh.fi zh.se zh.th (zKn zh) (zHo zh) kt ht p1 p2 p3)) (jX8_tell_170_0 zh.size zh.il zh.ba zh.gs zh.ni zh.li zh.mi zh.nx zh.mv zh.on zh.al zh.nc zh.nl th zh.ki zh.fi zh.se zh.th (zKn zh) (zHo zh) kt ht p1 p2 p3) f4 h0 hlt hsz
    rw [if_pos h]
    refine (yt_ite8 _ _ _ _ _ _ (yt_f0 zh kt ht th p1 p2 p3 h)).trans ?_
    refine Eq.trans ?_ (yt_ite _ _ _ _ _).symm
    rw [hd, he.2.2.2.2.1]
    rw [hd] at hb
    by_cases q : (¬ jX7_tell_90_0 zh.ni zh.li zh.mi zh.mv zh.nx zh.al zh.nc zh.nl zh.ki zh.fi zh.se zh.th zh.size zh.on zh.il zh.ba zh.kT zh.hT zh.kn zh.ho p1 p2 p3 = 0 ∧ jX8_tell_170_0 zh.size zh.il zh.ba zh.gs zh.ni zh.li zh.mi zh.nx zh.mv zh.on zh.al zh.nc zh.nl th zh.ki zh.fi zh.se zh.th (zKn zh) (zHo zh) kt ht p1 p2 p3 = 0 ∧ ¬ rX7_wouldSpoil zh.ni zh.li zh.mi zh.mv zh.nx zh.al zh.nc zh.nl zh.ki zh.fi zh.se zh.th zh.size zh.on zh.il zh.ba zh.kT zh.hT zh.kn zh.ho p2 p3 = 0)
    · rw [if_pos q, if_pos (hb.mpr q)]
    · rw [if_neg q, if_neg (fun z => q (hb.mp z))]
  · rw [if_neg h]
    unfold oX8_tell_nCl
    rw [if_neg (yt_f1 zh kt ht th p1 p2 p3 h)]
theorem yt_nl (zh : ZH) (kt ht : Nat → Int32) (th : Int32) (p1 p2 p3 : Int32) (fo : Nat → Int64) (hsz : zh.size.toInt ≤ 12) (hFI : ∀ j : Nat, j < 12 → vp_in (zh.fi j) 6) (hSE : ∀ j : Nat, j < 12 → vp_in (zh.se j) 6) (hTH : ∀ j : Nat, j < 12 → vp_in (zh.th j) 4) (hn : zh.ni = 1 → 0 ≤ zh.nx.toInt ∧ zh.nx.toInt < zh.size.toInt) : oX8_tell_nLn zh.size zh.il zh.ba zh.gs zh.ni zh.li zh.mi zh.nx zh.mv zh.on zh.al zh.nc zh.nl th zh.ki zh.fi zh.se zh.th (zKn zh) (zHo zh) kt ht p1 p2 p3 = oL_tell_nl zh.ni zh.li zh.mi zh.mv zh.nx zh.al zh.nc zh.nl zh.ki zh.fi zh.se zh.th zh.size zh.on zh.il zh.ba zh.kT zh.hT zh.kn zh.ho fo p1 p2 p3 := by
  unfold oL_tell_nl
  by_cases h : xX7_tell zh.ni zh.li zh.mi zh.mv zh.nx zh.al zh.nc zh.nl zh.ki zh.fi zh.se zh.th zh.size zh.on zh.il zh.ba zh.kT zh.hT zh.kn zh.ho p1 p2 p3 = 0
  · obtain ⟨f1, f2, f3, f4, f5⟩ := yt_f zh p1 p2 p3 h
    obtain ⟨h0, hlt⟩ := hn f4
    have hc : ¬ zh.size ≤ zh.nx := by
      rw [Int32.le_iff_toInt_le]
      omega
    have hb := yt_b zh kt ht th p1 p2 p3 hsz hFI hSE hTH hn h
    have hd := yt_d zh kt ht th p1 p2 p3 f4 h0 hc
    have he := yEM zh (oX8_fails_nTh zh.size zh.il zh.ba zh.gs zh.ni zh.li zh.mi zh.nx zh.mv zh.on zh.al zh.nc zh.nl th (jX8_tell_109_0 zh.size zh.il zh.ba zh.gs zh.ni zh.li zh.mi zh.nx zh.mv zh.on zh.al zh.nc zh.nl th zh.ki zh.fi zh.se zh.th (zKn zh) (zHo zh) kt ht p1 p2 p3)) (jX8_tell_170_0 zh.size zh.il zh.ba zh.gs zh.ni zh.li zh.mi zh.nx zh.mv zh.on zh.al zh.nc zh.nl th zh.ki zh.fi zh.se zh.th (zKn zh) (zHo zh) kt ht p1 p2 p3) f4 h0 hlt hsz
    rw [if_pos h]
    refine (yt_ite8 _ _ _ _ _ _ (yt_f0 zh kt ht th p1 p2 p3 h)).trans ?_
    refine Eq.trans ?_ (yt_ite _ _ _ _ _).symm
    rw [hd, he.2.2.2.2.2]
    rw [hd] at hb
    by_cases q : (¬ jX7_tell_90_0 zh.ni zh.li zh.mi zh.mv zh.nx zh.al zh.nc zh.nl zh.ki zh.fi zh.se zh.th zh.size zh.on zh.il zh.ba zh.kT zh.hT zh.kn zh.ho p1 p2 p3 = 0 ∧ jX8_tell_170_0 zh.size zh.il zh.ba zh.gs zh.ni zh.li zh.mi zh.nx zh.mv zh.on zh.al zh.nc zh.nl th zh.ki zh.fi zh.se zh.th (zKn zh) (zHo zh) kt ht p1 p2 p3 = 0 ∧ ¬ rX7_wouldSpoil zh.ni zh.li zh.mi zh.mv zh.nx zh.al zh.nc zh.nl zh.ki zh.fi zh.se zh.th zh.size zh.on zh.il zh.ba zh.kT zh.hT zh.kn zh.ho p2 p3 = 0)
    · rw [if_pos q, if_pos (hb.mpr q)]
    · rw [if_neg q, if_neg (fun z => q (hb.mp z))]
  · rw [if_neg h]
    unfold oX8_tell_nLn
    rw [if_neg (yt_f1 zh kt ht th p1 p2 p3 h)]
theorem yt_kn (zh : ZH) (kt ht : Nat → Int32) (th : Int32) (p1 p2 p3 : Int32) (fo : Nat → Int64) (hsz : zh.size.toInt ≤ 12) (hFI : ∀ j : Nat, j < 12 → vp_in (zh.fi j) 6) (hSE : ∀ j : Nat, j < 12 → vp_in (zh.se j) 6) (hTH : ∀ j : Nat, j < 12 → vp_in (zh.th j) 4) (hn : zh.ni = 1 → 0 ≤ zh.nx.toInt ∧ zh.nx.toInt < zh.size.toInt) : oX8_tell_mKn zh.size zh.il zh.ba zh.gs zh.ni zh.li zh.mi zh.nx zh.mv zh.on zh.al zh.nc zh.nl th zh.ki zh.fi zh.se zh.th (zKn zh) (zHo zh) kt ht p1 p2 p3 = if oL_tell_ni zh.ni zh.li zh.mi zh.mv zh.nx zh.al zh.nc zh.nl zh.ki zh.fi zh.se zh.th zh.size zh.on zh.il zh.ba zh.kT zh.hT zh.kn zh.ho fo p1 p2 p3 = 0 then zh.kb0 else oL_tell_kn zh.ni zh.li zh.mi zh.mv zh.nx zh.al zh.nc zh.nl zh.ki zh.fi zh.se zh.th zh.size zh.on zh.il zh.ba zh.kT zh.hT zh.kn zh.ho fo p1 p2 p3 := by
  unfold oL_tell_ni oL_tell_kn
  by_cases h : xX7_tell zh.ni zh.li zh.mi zh.mv zh.nx zh.al zh.nc zh.nl zh.ki zh.fi zh.se zh.th zh.size zh.on zh.il zh.ba zh.kT zh.hT zh.kn zh.ho p1 p2 p3 = 0
  · obtain ⟨f1, f2, f3, f4, f5⟩ := yt_f zh p1 p2 p3 h
    obtain ⟨h0, hlt⟩ := hn f4
    have hk : zKn zh = zh.kn := by
      unfold zKn
      rw [if_neg (by rw [f4]; decide)]
    have hkb : (upd (zKn zh) (p3).toNatClampNeg (((zKn zh) (p3).toNatClampNeg) ||| ((1 : Int32) <<< (p2 &&& 31)))) = (upd zh.kn (p3).toNatClampNeg ((zh.kn (p3).toNatClampNeg) ||| ((1 : Int32) <<< (p2 &&& 31)))) := by rw [hk]
    have hp2 := zM8 f2
    have hb := yt_b zh kt ht th p1 p2 p3 hsz hFI hSE hTH hn h
    rw [if_pos h, if_pos h]
    have en : oX7_tell_ni zh.ni zh.li zh.mi zh.mv zh.nx zh.al zh.nc zh.nl zh.ki zh.fi zh.se zh.th zh.size zh.on zh.il zh.ba zh.kT zh.hT zh.kn zh.ho p1 p2 p3 = if (¬ jX7_tell_90_0 zh.ni zh.li zh.mi zh.mv zh.nx zh.al zh.nc zh.nl zh.ki zh.fi zh.se zh.th zh.size zh.on zh.il zh.ba zh.kT zh.hT zh.kn zh.ho p1 p2 p3 = 0 ∧ jX7_tell_120_0 zh.ni zh.li zh.mi zh.mv zh.nx zh.al zh.nc zh.nl zh.ki zh.fi zh.se zh.th zh.size zh.on zh.il zh.ba zh.kT zh.hT zh.kn zh.ho p1 p2 p3 = 0 ∧ ¬ rX7_wouldSpoil zh.ni zh.li zh.mi zh.mv zh.nx zh.al zh.nc zh.nl zh.ki zh.fi zh.se zh.th zh.size zh.on zh.il zh.ba zh.kT zh.hT zh.kn zh.ho p2 p3 = 0) then zh.ni else oX7_endMove_ni zh.ni zh.li zh.mi zh.mv zh.nx zh.al zh.nc zh.nl zh.ki zh.fi zh.se zh.th zh.size (jX7_tell_120_0 zh.ni zh.li zh.mi zh.mv zh.nx zh.al zh.nc zh.nl zh.ki zh.fi zh.se zh.th zh.size zh.on zh.il zh.ba zh.kT zh.hT zh.kn zh.ho p1 p2 p3) := yt_ite _ _ _ _ _
    have nz : ¬ oX7_tell_ni zh.ni zh.li zh.mi zh.mv zh.nx zh.al zh.nc zh.nl zh.ki zh.fi zh.se zh.th zh.size zh.on zh.il zh.ba zh.kT zh.hT zh.kn zh.ho p1 p2 p3 = 0 := by
      rw [en]
      split
      · rw [f4]
        decide
      · exact yEMn zh _ f4
    rw [if_neg nz]
    have ek : oX7_tell_kn zh.ni zh.li zh.mi zh.mv zh.nx zh.al zh.nc zh.nl zh.ki zh.fi zh.se zh.th zh.size zh.on zh.il zh.ba zh.kT zh.hT zh.kn zh.ho p1 p2 p3 = if (¬ jX7_tell_90_0 zh.ni zh.li zh.mi zh.mv zh.nx zh.al zh.nc zh.nl zh.ki zh.fi zh.se zh.th zh.size zh.on zh.il zh.ba zh.kT zh.hT zh.kn zh.ho p1 p2 p3 = 0 ∧ jX7_tell_120_0 zh.ni zh.li zh.mi zh.mv zh.nx zh.al zh.nc zh.nl zh.ki zh.fi zh.se zh.th zh.size zh.on zh.il zh.ba zh.kT zh.hT zh.kn zh.ho p1 p2 p3 = 0 ∧ ¬ rX7_wouldSpoil zh.ni zh.li zh.mi zh.mv zh.nx zh.al zh.nc zh.nl zh.ki zh.fi zh.se zh.th zh.size zh.on zh.il zh.ba zh.kT zh.hT zh.kn zh.ho p2 p3 = 0) then zh.kn else (upd zh.kn (p3).toNatClampNeg ((zh.kn (p3).toNatClampNeg) ||| ((1 : Int32) <<< (p2 &&& 31)))) := by
      unfold oX7_tell_kn
      by_cases n7 : jX7_tell_90_0 zh.ni zh.li zh.mi zh.mv zh.nx zh.al zh.nc zh.nl zh.ki zh.fi zh.se zh.th zh.size zh.on zh.il zh.ba zh.kT zh.hT zh.kn zh.ho p1 p2 p3 = 0
      · rw [if_pos n7, if_neg (fun q => q.1 n7)]
        rfl
      · rw [if_neg n7]
        have news : rX7_isIn (zh.kn p3.toNatClampNeg) p2 = 0 := by
          apply Classical.byContradiction
          intro q
          apply n7
          unfold jX7_tell_90_0 rX2_isKnower
          rw [if_neg q]
        have hny := (yi_is0 hp2).mp news
        have ew : oX7_wouldSpoil_kn zh.ni zh.li zh.mi zh.mv zh.nx zh.al zh.nc zh.nl zh.ki zh.fi zh.se zh.th zh.size zh.on zh.il zh.ba zh.kT zh.hT zh.kn zh.ho p2 p3 = zh.kn := by
          unfold oX7_wouldSpoil_kn
          by_cases q : rX3_canBeClosed zh.ki zh.fi zh.se zh.th zh.size zh.on zh.il zh.ba zh.kT zh.hT zh.kn zh.ho zh.nx = 0
          · rw [if_pos q]
          · rw [if_neg q]
            unfold oX2_forget_fk oX2_learn_fk
            rw [zUpK, yi_back hp2 hny]
            funext j
            rw [yupd32, yupd32]
            by_cases hj : j = p3.toNatClampNeg
            · rw [if_pos hj, hj]
            · rw [if_neg hj, if_neg hj]
        rw [ew]
        by_cases d7 : jX7_tell_120_0 zh.ni zh.li zh.mi zh.mv zh.nx zh.al zh.nc zh.nl zh.ki zh.fi zh.se zh.th zh.size zh.on zh.il zh.ba zh.kT zh.hT zh.kn zh.ho p1 p2 p3 = 0
        · rw [if_pos d7]
          by_cases ws : rX7_wouldSpoil zh.ni zh.li zh.mi zh.mv zh.nx zh.al zh.nc zh.nl zh.ki zh.fi zh.se zh.th zh.size zh.on zh.il zh.ba zh.kT zh.hT zh.kn zh.ho p2 p3 = 0
          · rw [if_pos ws, if_neg (fun q => q.2.2 ws)]
            rfl
          · rw [if_neg ws, if_pos ⟨n7, d7, ws⟩]
        · rw [if_neg d7, if_neg (fun q => d7 q.2.1)]
          rfl
    rw [ek]
    have e8 : oX8_tell_mKn zh.size zh.il zh.ba zh.gs zh.ni zh.li zh.mi zh.nx zh.mv zh.on zh.al zh.nc zh.nl th zh.ki zh.fi zh.se zh.th (zKn zh) (zHo zh) kt ht p1 p2 p3 = if (¬ rX8_canClose zh.size zh.il zh.ba zh.gs zh.ni zh.li zh.mi zh.nx zh.mv zh.on zh.al zh.nc zh.nl (oX8_fails_nTh zh.size zh.il zh.ba zh.gs zh.ni zh.li zh.mi zh.nx zh.mv zh.on zh.al zh.nc zh.nl th (jX8_tell_109_0 zh.size zh.il zh.ba zh.gs zh.ni zh.li zh.mi zh.nx zh.mv zh.on zh.al zh.nc zh.nl th zh.ki zh.fi zh.se zh.th (zKn zh) (zHo zh) kt ht p1 p2 p3)) zh.ki zh.fi zh.se zh.th (zKn zh) (zHo zh) kt ht zh.nx = 0 ∧ rX8_canClose zh.size zh.il zh.ba zh.gs zh.ni zh.li zh.mi zh.nx zh.mv zh.on zh.al zh.nc zh.nl (oX8_fails_nTh zh.size zh.il zh.ba zh.gs zh.ni zh.li zh.mi zh.nx zh.mv zh.on zh.al zh.nc zh.nl th (jX8_tell_109_0 zh.size zh.il zh.ba zh.gs zh.ni zh.li zh.mi zh.nx zh.mv zh.on zh.al zh.nc zh.nl th zh.ki zh.fi zh.se zh.th (zKn zh) (zHo zh) kt ht p1 p2 p3)) zh.ki zh.fi zh.se zh.th (upd (zKn zh) (p3).toNatClampNeg (((zKn zh) (p3).toNatClampNeg) ||| ((1 : Int32) <<< (p2 &&& 31)))) (zHo zh) (oX8_canClose_mKt zh.size zh.il zh.ba zh.gs zh.ni zh.li zh.mi zh.nx zh.mv zh.on zh.al zh.nc zh.nl (oX8_fails_nTh zh.size zh.il zh.ba zh.gs zh.ni zh.li zh.mi zh.nx zh.mv zh.on zh.al zh.nc zh.nl th (jX8_tell_109_0 zh.size zh.il zh.ba zh.gs zh.ni zh.li zh.mi zh.nx zh.mv zh.on zh.al zh.nc zh.nl th zh.ki zh.fi zh.se zh.th (zKn zh) (zHo zh) kt ht p1 p2 p3)) zh.ki zh.fi zh.se zh.th (zKn zh) (zHo zh) kt ht zh.nx) (oX8_canClose_mHt zh.size zh.il zh.ba zh.gs zh.ni zh.li zh.mi zh.nx zh.mv zh.on zh.al zh.nc zh.nl (oX8_fails_nTh zh.size zh.il zh.ba zh.gs zh.ni zh.li zh.mi zh.nx zh.mv zh.on zh.al zh.nc zh.nl th (jX8_tell_109_0 zh.size zh.il zh.ba zh.gs zh.ni zh.li zh.mi zh.nx zh.mv zh.on zh.al zh.nc zh.nl th zh.ki zh.fi zh.se zh.th (zKn zh) (zHo zh) kt ht p1 p2 p3)) zh.ki zh.fi zh.se zh.th (zKn zh) (zHo zh) kt ht zh.nx) (zh.nx + (jX8_tell_222_0 zh.size zh.il zh.ba zh.gs zh.ni zh.li zh.mi zh.nx zh.mv zh.on zh.al zh.nc zh.nl th zh.ki zh.fi zh.se zh.th (zKn zh) (zHo zh) kt ht p1 p2 p3)) = 0) then (upd (upd (zKn zh) (p3).toNatClampNeg (((zKn zh) (p3).toNatClampNeg) ||| ((1 : Int32) <<< (p2 &&& 31)))) (p3).toNatClampNeg ((zKn zh) (p3).toNatClampNeg)) else (upd (zKn zh) (p3).toNatClampNeg (((zKn zh) (p3).toNatClampNeg) ||| ((1 : Int32) <<< (p2 &&& 31)))) := yt_ite8 _ _ _ _ _ _ (yt_f0 zh kt ht th p1 p2 p3 h)
    rw [e8]
    by_cases q : (¬ jX7_tell_90_0 zh.ni zh.li zh.mi zh.mv zh.nx zh.al zh.nc zh.nl zh.ki zh.fi zh.se zh.th zh.size zh.on zh.il zh.ba zh.kT zh.hT zh.kn zh.ho p1 p2 p3 = 0 ∧ jX7_tell_120_0 zh.ni zh.li zh.mi zh.mv zh.nx zh.al zh.nc zh.nl zh.ki zh.fi zh.se zh.th zh.size zh.on zh.il zh.ba zh.kT zh.hT zh.kn zh.ho p1 p2 p3 = 0 ∧ ¬ rX7_wouldSpoil zh.ni zh.li zh.mi zh.mv zh.nx zh.al zh.nc zh.nl zh.ki zh.fi zh.se zh.th zh.size zh.on zh.il zh.ba zh.kT zh.hT zh.kn zh.ho p2 p3 = 0)
    · rw [if_pos q, if_pos (hb.mpr q), hk]
      funext j
      rw [yupd32, yupd32]
      by_cases hj : j = p3.toNatClampNeg
      · rw [if_pos hj, hj]
      · rw [if_neg hj, if_neg hj]
    · rw [if_neg q, if_neg (fun z => q (hb.mp z)), hk]
  · rw [if_neg h, if_neg h]
    unfold oX8_tell_mKn
    rw [if_neg (yt_f1 zh kt ht th p1 p2 p3 h)]
    rfl
theorem yt_ho (zh : ZH) (p1 p2 p3 : Int32) (fo : Nat → Int64) : zHo zh = if oL_tell_ni zh.ni zh.li zh.mi zh.mv zh.nx zh.al zh.nc zh.nl zh.ki zh.fi zh.se zh.th zh.size zh.on zh.il zh.ba zh.kT zh.hT zh.kn zh.ho fo p1 p2 p3 = 0 then zh.hb0 else zh.ho := by
  unfold oL_tell_ni
  by_cases h : xX7_tell zh.ni zh.li zh.mi zh.mv zh.nx zh.al zh.nc zh.nl zh.ki zh.fi zh.se zh.th zh.size zh.on zh.il zh.ba zh.kT zh.hT zh.kn zh.ho p1 p2 p3 = 0
  · obtain ⟨f1, f2, f3, f4, f5⟩ := yt_f zh p1 p2 p3 h
    have en : oX7_tell_ni zh.ni zh.li zh.mi zh.mv zh.nx zh.al zh.nc zh.nl zh.ki zh.fi zh.se zh.th zh.size zh.on zh.il zh.ba zh.kT zh.hT zh.kn zh.ho p1 p2 p3 = if (¬ jX7_tell_90_0 zh.ni zh.li zh.mi zh.mv zh.nx zh.al zh.nc zh.nl zh.ki zh.fi zh.se zh.th zh.size zh.on zh.il zh.ba zh.kT zh.hT zh.kn zh.ho p1 p2 p3 = 0 ∧ jX7_tell_120_0 zh.ni zh.li zh.mi zh.mv zh.nx zh.al zh.nc zh.nl zh.ki zh.fi zh.se zh.th zh.size zh.on zh.il zh.ba zh.kT zh.hT zh.kn zh.ho p1 p2 p3 = 0 ∧ ¬ rX7_wouldSpoil zh.ni zh.li zh.mi zh.mv zh.nx zh.al zh.nc zh.nl zh.ki zh.fi zh.se zh.th zh.size zh.on zh.il zh.ba zh.kT zh.hT zh.kn zh.ho p2 p3 = 0) then zh.ni else oX7_endMove_ni zh.ni zh.li zh.mi zh.mv zh.nx zh.al zh.nc zh.nl zh.ki zh.fi zh.se zh.th zh.size (jX7_tell_120_0 zh.ni zh.li zh.mi zh.mv zh.nx zh.al zh.nc zh.nl zh.ki zh.fi zh.se zh.th zh.size zh.on zh.il zh.ba zh.kT zh.hT zh.kn zh.ho p1 p2 p3) := yt_ite _ _ _ _ _
    have nz : ¬ oX7_tell_ni zh.ni zh.li zh.mi zh.mv zh.nx zh.al zh.nc zh.nl zh.ki zh.fi zh.se zh.th zh.size zh.on zh.il zh.ba zh.kT zh.hT zh.kn zh.ho p1 p2 p3 = 0 := by
      rw [en]
      split
      · rw [f4]
        decide
      · exact yEMn zh _ f4
    rw [if_pos h, if_neg nz]
    unfold zHo
    rw [if_neg (by rw [f4]; decide)]
  · rw [if_neg h]
    rfl
theorem yt_r (zh : ZH) (kt ht : Nat → Int32) (th : Int32) (p1 p2 p3 : Int32) (hsz : zh.size.toInt ≤ 12) (hFI : ∀ j : Nat, j < 12 → vp_in (zh.fi j) 6) (hSE : ∀ j : Nat, j < 12 → vp_in (zh.se j) 6) (hTH : ∀ j : Nat, j < 12 → vp_in (zh.th j) 4) (hn : zh.ni = 1 → 0 ≤ zh.nx.toInt ∧ zh.nx.toInt < zh.size.toInt) (h : xX7_tell zh.ni zh.li zh.mi zh.mv zh.nx zh.al zh.nc zh.nl zh.ki zh.fi zh.se zh.th zh.size zh.on zh.il zh.ba zh.kT zh.hT zh.kn zh.ho p1 p2 p3 = 0) : rX7_tell zh.ni zh.li zh.mi zh.mv zh.nx zh.al zh.nc zh.nl zh.ki zh.fi zh.se zh.th zh.size zh.on zh.il zh.ba zh.kT zh.hT zh.kn zh.ho p1 p2 p3 = rX8_tell zh.size zh.il zh.ba zh.gs zh.ni zh.li zh.mi zh.nx zh.mv zh.on zh.al zh.nc zh.nl th zh.ki zh.fi zh.se zh.th (zKn zh) (zHo zh) kt ht p1 p2 p3 := by
  obtain ⟨f1, f2, f3, f4, f5⟩ := yt_f zh p1 p2 p3 h
  obtain ⟨h0, hlt⟩ := hn f4
  have hc : ¬ zh.size ≤ zh.nx := by
    rw [Int32.le_iff_toInt_le]
    omega
  have hb := yt_b zh kt ht th p1 p2 p3 hsz hFI hSE hTH hn h
  have hd := yt_d zh kt ht th p1 p2 p3 f4 h0 hc
  have e7 : rX7_tell zh.ni zh.li zh.mi zh.mv zh.nx zh.al zh.nc zh.nl zh.ki zh.fi zh.se zh.th zh.size zh.on zh.il zh.ba zh.kT zh.hT zh.kn zh.ho p1 p2 p3 = if (¬ jX7_tell_90_0 zh.ni zh.li zh.mi zh.mv zh.nx zh.al zh.nc zh.nl zh.ki zh.fi zh.se zh.th zh.size zh.on zh.il zh.ba zh.kT zh.hT zh.kn zh.ho p1 p2 p3 = 0 ∧ jX7_tell_120_0 zh.ni zh.li zh.mi zh.mv zh.nx zh.al zh.nc zh.nl zh.ki zh.fi zh.se zh.th zh.size zh.on zh.il zh.ba zh.kT zh.hT zh.kn zh.ho p1 p2 p3 = 0 ∧ ¬ rX7_wouldSpoil zh.ni zh.li zh.mi zh.mv zh.nx zh.al zh.nc zh.nl zh.ki zh.fi zh.se zh.th zh.size zh.on zh.il zh.ba zh.kT zh.hT zh.kn zh.ho p2 p3 = 0) then 0 else rX7_endMove zh.ni zh.li zh.mi zh.mv zh.nx zh.al zh.nc zh.nl zh.ki zh.fi zh.se zh.th zh.size (jX7_tell_120_0 zh.ni zh.li zh.mi zh.mv zh.nx zh.al zh.nc zh.nl zh.ki zh.fi zh.se zh.th zh.size zh.on zh.il zh.ba zh.kT zh.hT zh.kn zh.ho p1 p2 p3) := yt_ite _ _ _ _ _
  have e8 : rX8_tell zh.size zh.il zh.ba zh.gs zh.ni zh.li zh.mi zh.nx zh.mv zh.on zh.al zh.nc zh.nl th zh.ki zh.fi zh.se zh.th (zKn zh) (zHo zh) kt ht p1 p2 p3 = if (¬ rX8_canClose zh.size zh.il zh.ba zh.gs zh.ni zh.li zh.mi zh.nx zh.mv zh.on zh.al zh.nc zh.nl (oX8_fails_nTh zh.size zh.il zh.ba zh.gs zh.ni zh.li zh.mi zh.nx zh.mv zh.on zh.al zh.nc zh.nl th (jX8_tell_109_0 zh.size zh.il zh.ba zh.gs zh.ni zh.li zh.mi zh.nx zh.mv zh.on zh.al zh.nc zh.nl th zh.ki zh.fi zh.se zh.th (zKn zh) (zHo zh) kt ht p1 p2 p3)) zh.ki zh.fi zh.se zh.th (zKn zh) (zHo zh) kt ht zh.nx = 0 ∧ rX8_canClose zh.size zh.il zh.ba zh.gs zh.ni zh.li zh.mi zh.nx zh.mv zh.on zh.al zh.nc zh.nl (oX8_fails_nTh zh.size zh.il zh.ba zh.gs zh.ni zh.li zh.mi zh.nx zh.mv zh.on zh.al zh.nc zh.nl th (jX8_tell_109_0 zh.size zh.il zh.ba zh.gs zh.ni zh.li zh.mi zh.nx zh.mv zh.on zh.al zh.nc zh.nl th zh.ki zh.fi zh.se zh.th (zKn zh) (zHo zh) kt ht p1 p2 p3)) zh.ki zh.fi zh.se zh.th (upd (zKn zh) (p3).toNatClampNeg (((zKn zh) (p3).toNatClampNeg) ||| ((1 : Int32) <<< (p2 &&& 31)))) (zHo zh) (oX8_canClose_mKt zh.size zh.il zh.ba zh.gs zh.ni zh.li zh.mi zh.nx zh.mv zh.on zh.al zh.nc zh.nl (oX8_fails_nTh zh.size zh.il zh.ba zh.gs zh.ni zh.li zh.mi zh.nx zh.mv zh.on zh.al zh.nc zh.nl th (jX8_tell_109_0 zh.size zh.il zh.ba zh.gs zh.ni zh.li zh.mi zh.nx zh.mv zh.on zh.al zh.nc zh.nl th zh.ki zh.fi zh.se zh.th (zKn zh) (zHo zh) kt ht p1 p2 p3)) zh.ki zh.fi zh.se zh.th (zKn zh) (zHo zh) kt ht zh.nx) (oX8_canClose_mHt zh.size zh.il zh.ba zh.gs zh.ni zh.li zh.mi zh.nx zh.mv zh.on zh.al zh.nc zh.nl (oX8_fails_nTh zh.size zh.il zh.ba zh.gs zh.ni zh.li zh.mi zh.nx zh.mv zh.on zh.al zh.nc zh.nl th (jX8_tell_109_0 zh.size zh.il zh.ba zh.gs zh.ni zh.li zh.mi zh.nx zh.mv zh.on zh.al zh.nc zh.nl th zh.ki zh.fi zh.se zh.th (zKn zh) (zHo zh) kt ht p1 p2 p3)) zh.ki zh.fi zh.se zh.th (zKn zh) (zHo zh) kt ht zh.nx) (zh.nx + (jX8_tell_222_0 zh.size zh.il zh.ba zh.gs zh.ni zh.li zh.mi zh.nx zh.mv zh.on zh.al zh.nc zh.nl th zh.ki zh.fi zh.se zh.th (zKn zh) (zHo zh) kt ht p1 p2 p3)) = 0) then 0 else rX8_moved zh.size zh.il zh.ba zh.gs zh.ni zh.li zh.mi zh.nx zh.mv zh.on zh.al zh.nc zh.nl (oX8_fails_nTh zh.size zh.il zh.ba zh.gs zh.ni zh.li zh.mi zh.nx zh.mv zh.on zh.al zh.nc zh.nl th (jX8_tell_109_0 zh.size zh.il zh.ba zh.gs zh.ni zh.li zh.mi zh.nx zh.mv zh.on zh.al zh.nc zh.nl th zh.ki zh.fi zh.se zh.th (zKn zh) (zHo zh) kt ht p1 p2 p3)) (jX8_tell_170_0 zh.size zh.il zh.ba zh.gs zh.ni zh.li zh.mi zh.nx zh.mv zh.on zh.al zh.nc zh.nl th zh.ki zh.fi zh.se zh.th (zKn zh) (zHo zh) kt ht p1 p2 p3) := yt_ite8 _ _ _ _ _ _ (yt_f0 zh kt ht th p1 p2 p3 h)
  rw [e7, e8]
  by_cases q : (¬ jX7_tell_90_0 zh.ni zh.li zh.mi zh.mv zh.nx zh.al zh.nc zh.nl zh.ki zh.fi zh.se zh.th zh.size zh.on zh.il zh.ba zh.kT zh.hT zh.kn zh.ho p1 p2 p3 = 0 ∧ jX7_tell_120_0 zh.ni zh.li zh.mi zh.mv zh.nx zh.al zh.nc zh.nl zh.ki zh.fi zh.se zh.th zh.size zh.on zh.il zh.ba zh.kT zh.hT zh.kn zh.ho p1 p2 p3 = 0 ∧ ¬ rX7_wouldSpoil zh.ni zh.li zh.mi zh.mv zh.nx zh.al zh.nc zh.nl zh.ki zh.fi zh.se zh.th zh.size zh.on zh.il zh.ba zh.kT zh.hT zh.kn zh.ho p2 p3 = 0)
  · rw [if_pos q, if_pos (hb.mpr q)]
  · rw [if_neg q, if_neg (fun z => q (hb.mp z)), hd]
    rfl
theorem zA_12 (zh : ZH) (kt ht : Nat → Int32) (th : Int32) (fo : Nat → Int64) (fd : Nat → UInt64) (xs : Nat → Int32) (i : Int32) (hsz : zh.size.toInt ≤ 12) (hFI : ∀ j : Nat, j < 12 → vp_in (zh.fi j) 6) (hSE : ∀ j : Nat, j < 12 → vp_in (zh.se j) 6) (hTH : ∀ j : Nat, j < 12 → vp_in (zh.th j) 4) (hn : zh.ni = 1 → 0 ≤ zh.nx.toInt ∧ zh.nx.toInt < zh.size.toInt) : (rX8_thrown zh.size zh.il zh.ba zh.gs (oX8_tell_nNs zh.size zh.il zh.ba zh.gs zh.ni zh.li zh.mi zh.nx zh.mv zh.on zh.al zh.nc zh.nl th zh.ki zh.fi zh.se zh.th (zKn zh) (zHo zh) kt ht (xs ((i + (1 : Int32))).toNatClampNeg) (xs ((i + (2 : Int32))).toNatClampNeg) (xs ((i + (3 : Int32))).toNatClampNeg)) zh.li (oX8_tell_nMi zh.size zh.il zh.ba zh.gs zh.ni zh.li zh.mi zh.nx zh.mv zh.on zh.al zh.nc zh.nl th zh.ki zh.fi zh.se zh.th (zKn zh) (zHo zh) kt ht (xs ((i + (1 : Int32))).toNatClampNeg) (xs ((i + (2 : Int32))).toNatClampNeg) (xs ((i + (3 : Int32))).toNatClampNeg)) (oX8_tell_nNx zh.size zh.il zh.ba zh.gs zh.ni zh.li zh.mi zh.nx zh.mv zh.on zh.al zh.nc zh.nl th zh.ki zh.fi zh.se zh.th (zKn zh) (zHo zh) kt ht (xs ((i + (1 : Int32))).toNatClampNeg) (xs ((i + (2 : Int32))).toNatClampNeg) (xs ((i + (3 : Int32))).toNatClampNeg)) (oX8_tell_nMv zh.size zh.il zh.ba zh.gs zh.ni zh.li zh.mi zh.nx zh.mv zh.on zh.al zh.nc zh.nl th zh.ki zh.fi zh.se zh.th (zKn zh) (zHo zh) kt ht (xs ((i + (1 : Int32))).toNatClampNeg) (xs ((i + (2 : Int32))).toNatClampNeg) (xs ((i + (3 : Int32))).toNatClampNeg)) zh.on zh.al (oX8_tell_nCl zh.size zh.il zh.ba zh.gs zh.ni zh.li zh.mi zh.nx zh.mv zh.on zh.al zh.nc zh.nl th zh.ki zh.fi zh.se zh.th (zKn zh) (zHo zh) kt ht (xs ((i + (1 : Int32))).toNatClampNeg) (xs ((i + (2 : Int32))).toNatClampNeg) (xs ((i + (3 : Int32))).toNatClampNeg)) (oX8_tell_nLn zh.size zh.il zh.ba zh.gs zh.ni zh.li zh.mi zh.nx zh.mv zh.on zh.al zh.nc zh.nl th zh.ki zh.fi zh.se zh.th (zKn zh) (zHo zh) kt ht (xs ((i + (1 : Int32))).toNatClampNeg) (xs ((i + (2 : Int32))).toNatClampNeg) (xs ((i + (3 : Int32))).toNatClampNeg)) (oX8_tell_nTh zh.size zh.il zh.ba zh.gs zh.ni zh.li zh.mi zh.nx zh.mv zh.on zh.al zh.nc zh.nl th zh.ki zh.fi zh.se zh.th (zKn zh) (zHo zh) kt ht (xs ((i + (1 : Int32))).toNatClampNeg) (xs ((i + (2 : Int32))).toNatClampNeg) (xs ((i + (3 : Int32))).toNatClampNeg))) = (rL_tell zh.ni zh.li zh.mi zh.mv zh.nx zh.al zh.nc zh.nl zh.ki zh.fi zh.se zh.th zh.size zh.on zh.il zh.ba zh.kT zh.hT zh.kn zh.ho fo (xs ((i + (1 : Int32))).toNatClampNeg) (xs ((i + (2 : Int32))).toNatClampNeg) (xs ((i + (3 : Int32))).toNatClampNeg)) → (rL_tell zh.ni zh.li zh.mi zh.mv zh.nx zh.al zh.nc zh.nl zh.ki zh.fi zh.se zh.th zh.size zh.on zh.il zh.ba zh.kT zh.hT zh.kn zh.ho fo (xs ((i + (1 : Int32))).toNatClampNeg) (xs ((i + (2 : Int32))).toNatClampNeg) (xs ((i + (3 : Int32))).toNatClampNeg)) = 0 → (lg_cmp ((oL_tell_fo zh.ni zh.li zh.mi zh.mv zh.nx zh.al zh.nc zh.nl zh.ki zh.fi zh.se zh.th zh.size zh.on zh.il zh.ba zh.kT zh.hT zh.kn zh.ho fo (xs ((i + (1 : Int32))).toNatClampNeg) (xs ((i + (2 : Int32))).toNatClampNeg) (xs ((i + (3 : Int32))).toNatClampNeg)) ((0 : Int32)).toNatClampNeg) ((rX8_tell zh.size zh.il zh.ba zh.gs zh.ni zh.li zh.mi zh.nx zh.mv zh.on zh.al zh.nc zh.nl th zh.ki zh.fi zh.se zh.th (zKn zh) (zHo zh) kt ht (xs ((i + (1 : Int32))).toNatClampNeg) (xs ((i + (2 : Int32))).toNatClampNeg) (xs ((i + (3 : Int32))).toNatClampNeg)).toInt64)) = 0 := by
  intro _ h
  have hx : xX7_tell zh.ni zh.li zh.mi zh.mv zh.nx zh.al zh.nc zh.nl zh.ki zh.fi zh.se zh.th zh.size zh.on zh.il zh.ba zh.kT zh.hT zh.kn zh.ho (xs ((i + (1 : Int32))).toNatClampNeg) (xs ((i + (2 : Int32))).toNatClampNeg) (xs ((i + (3 : Int32))).toNatClampNeg) = 0 := by
    apply Classical.byContradiction
    intro q
    have q2 := (yt_x zh fo (xs ((i + (1 : Int32))).toNatClampNeg) (xs ((i + (2 : Int32))).toNatClampNeg) (xs ((i + (3 : Int32))).toNatClampNeg)).2 q
    rw [h] at q2
    exact absurd q2 (by decide)
  unfold oL_tell_fo
  rw [if_pos hx, zU0, yt_r zh kt ht th (xs ((i + (1 : Int32))).toNatClampNeg) (xs ((i + (2 : Int32))).toNatClampNeg) (xs ((i + (3 : Int32))).toNatClampNeg) hsz hFI hSE hTH hn hx]
  exact zCmp _
theorem zB_12 (zh : ZH) (kt ht : Nat → Int32) (th : Int32) (fo : Nat → Int64) (fd : Nat → UInt64) (xs : Nat → Int32) (i : Int32) (hsz : zh.size.toInt ≤ 12) (hFI : ∀ j : Nat, j < 12 → vp_in (zh.fi j) 6) (hSE : ∀ j : Nat, j < 12 → vp_in (zh.se j) 6) (hTH : ∀ j : Nat, j < 12 → vp_in (zh.th j) 4) (hn : zh.ni = 1 → 0 ≤ zh.nx.toInt ∧ zh.nx.toInt < zh.size.toInt) : (zm_12 zh (zMof zh kt ht th) fo fd xs i) = zMof (zh_12 zh (zMof zh kt ht th) fo fd xs i) ((zm_12 zh (zMof zh kt ht th) fo fd xs i)).mKt ((zm_12 zh (zMof zh kt ht th) fo fd xs i)).mHt ((zm_12 zh (zMof zh kt ht th) fo fd xs i)).nTh := by
  unfold zm_12
  simp only [zMof_nSt, zMof_nIl, zMof_nBa, zMof_nGa, zMof_nNs, zMof_nLi, zMof_nMi, zMof_nNx, zMof_nMv, zMof_nOn, zMof_nLa, zMof_nCl, zMof_nLn, zMof_nTh, zMof_mFk, zMof_mFh, zMof_mKi, zMof_mOn, zMof_mOt, zMof_mWh, zMof_mLe, zMof_mWi, zMof_mPr, zMof_mPl, zMof_mPt, zMof_mKn, zMof_mHa, zMof_mKt, zMof_mHt]
  rw [yt_ni zh kt ht th (xs ((i + (1 : Int32))).toNatClampNeg) (xs ((i + (2 : Int32))).toNatClampNeg) (xs ((i + (3 : Int32))).toNatClampNeg) fo hsz hFI hSE hTH hn, yt_mi zh kt ht th (xs ((i + (1 : Int32))).toNatClampNeg) (xs ((i + (2 : Int32))).toNatClampNeg) (xs ((i + (3 : Int32))).toNatClampNeg) fo hsz hFI hSE hTH hn, yt_mv zh kt ht th (xs ((i + (1 : Int32))).toNatClampNeg) (xs ((i + (2 : Int32))).toNatClampNeg) (xs ((i + (3 : Int32))).toNatClampNeg) fo hsz hFI hSE hTH hn, yt_nx zh kt ht th (xs ((i + (1 : Int32))).toNatClampNeg) (xs ((i + (2 : Int32))).toNatClampNeg) (xs ((i + (3 : Int32))).toNatClampNeg) fo hsz hFI hSE hTH hn, yt_nc zh kt ht th (xs ((i + (1 : Int32))).toNatClampNeg) (xs ((i + (2 : Int32))).toNatClampNeg) (xs ((i + (3 : Int32))).toNatClampNeg) fo hsz hFI hSE hTH hn, yt_nl zh kt ht th (xs ((i + (1 : Int32))).toNatClampNeg) (xs ((i + (2 : Int32))).toNatClampNeg) (xs ((i + (3 : Int32))).toNatClampNeg) fo hsz hFI hSE hTH hn, yt_kn zh kt ht th (xs ((i + (1 : Int32))).toNatClampNeg) (xs ((i + (2 : Int32))).toNatClampNeg) (xs ((i + (3 : Int32))).toNatClampNeg) fo hsz hFI hSE hTH hn, yt_ho zh (xs ((i + (1 : Int32))).toNatClampNeg) (xs ((i + (2 : Int32))).toNatClampNeg) (xs ((i + (3 : Int32))).toNatClampNeg) fo]
  simp only [zh_12, zMof, zKn, zHo, ZM.mKt_of, ZM.mHt_of, ZM.nTh_of, ZH.ni_of, ZH.li_of, ZH.mi_of, ZH.mv_of, ZH.nx_of, ZH.al_of, ZH.nc_of, ZH.nl_of, ZH.on_of, ZH.il_of, ZH.ba_of, ZH.size_of, ZH.ki_of, ZH.fi_of, ZH.se_of, ZH.th_of, ZH.kT_of, ZH.hT_of, ZH.kn_of, ZH.ho_of, ZH.kb0_of, ZH.hb0_of, ZH.gs_of, ZH.le_of, ZH.wi_of, ZH.pr_of, ZH.tp_of, ZH.pt_of, ZH.fr_of, ZH.fb_of]
  rfl
