/-! X7_share -/
def qX7_share_29_x (ni : Int32) (li : Int32) (mi : Int32) (mv : Int32) (nx : Int32) (al : Int32) (nc : Int32) (nl : Int32) (pt : Nat → Int32) (p1 : Int32) (su1 : Int32) (i1 : Int32) : Nat := 0
def qX7_share_29_r (ni : Int32) (li : Int32) (mi : Int32) (mv : Int32) (nx : Int32) (al : Int32) (nc : Int32) (nl : Int32) (pt : Nat → Int32) (p1 : Int32) (su1 : Int32) (i1 : Int32) : UInt64 := (if su1 = 0 then FP.dconst0 else (FP.ddiv (FP.dmul (FP.i2d al) (FP.i2d (pt (p1).toNatClampNeg))) (FP.i2d su1)))
def lX7_share_8_r (ni : Int32) (li : Int32) (mi : Int32) (mv : Int32) (nx : Int32) (al : Int32) (nc : Int32) (nl : Int32) (pt : Nat → Int32) (p1 : Int32) : Nat → (Int32) → (Int32) → (UInt64)
  | 0, _, _ => 0
  | n8 + 1, su1, i1 => (if (6 : Int32) ≤ i1 then (qX7_share_29_r ni li mi mv nx al nc nl pt p1 su1 i1) else (lX7_share_8_r ni li mi mv nx al nc nl pt p1 n8 (su1 + (pt (i1).toNatClampNeg)) (i1 + 1)))
def xX7_share (ni : Int32) (li : Int32) (mi : Int32) (mv : Int32) (nx : Int32) (al : Int32) (nc : Int32) (nl : Int32) (pt : Nat → Int32) (p1 : Int32) : Nat := (if (xX7_needMask p1) = 0 then 0 else (xX7_needMask p1))
def rX7_share (ni : Int32) (li : Int32) (mi : Int32) (mv : Int32) (nx : Int32) (al : Int32) (nc : Int32) (nl : Int32) (pt : Nat → Int32) (p1 : Int32) : UInt64 := (lX7_share_8_r ni li mi mv nx al nc nl pt p1 7 (0 : Int32) (0 : Int32))
set_option maxRecDepth 20000 in
theorem iX7_share_X7 : ∀ w ∈ u_ws RX7 TX7 16, w ∈ wsX7_share := by decide +kernel
set_option maxRecDepth 20000 in
theorem kX7_share_1 : Cond.fieldLink RX7 206 "MaskHall" "allLaughs" "I" ∈ wsX7_share := by decide +kernel
set_option maxRecDepth 20000 in
theorem kX7_share_2 : Cond.fieldLink RX7 60 "MaskHall" "pointsOf" "[I" ∈ wsX7_share := by decide +kernel
set_option maxHeartbeats 900000 in
set_option maxRecDepth 100000 in
theorem c_X7_share (l : Launch) (hfl : l.stackTraces = false) (dC : Nat → ClassId) (dI : Nat → Nat → Nat) (cI cJ : ClassId) (mh pa ca la sg pl rw tw ga : Nat) (sz : Nat) (ni : Int32) (li : Int32) (mi : Int32) (mv : Int32) (nx : Int32) (al : Int32) (nc : Int32) (nl : Int32) (pt : Nat → Int32) (p1 : Int32) : vx_Met l yX7_share wsX7_share ({ frames := 7, cells := 1, slots := 6, locals := 102 }) (va_Pc [.ref mh, .int p1] (zI (dC, dI) [(cI, .int), (cJ, .long)] [(mh, .inr (7, [.ref ca, .ref la, .ref sg, .ref pl, .ref rw, .ref tw, .ref ga, .ref pa, .int ni, .int li, .int mi, .int mv, .int nx, .int al, .int nc, .int nl])), (pa, .inl (cI, 6, .inl pt))] sz)) (vp_Sd (fun r => xX7_share ni li mi mv nx al nc nl pt p1 = 0 ∧ r = rX7_share ni li mi mv nx al nc nl pt p1)) (zX (fun k => xX7_share ni li mi mv nx al nc nl pt p1 = k ∧ k ≠ 0) sz) 1 6 (fun _ => False) := by
  refine vx_ofW (cc := cX7_share) (maxL := 4) (ret := (some .double)) (by decide) rfl ?_
  intro p e s m args below meth c s₁ B hml hto hv
  obtain ⟨rfl, hsz, hP, hK, hD0, hG⟩ := hv
  have hx := B.exec
  have hb := B.bytes
  have hr := B.returns
  have hts := atoms_spec (ws := wsX7_share) B.pre
  have hown : s.vm.findClass RX7 = some m.cls := findClass_of_methodNamed B.named
  have hlocks := B.notSynchronized
  subst hsz
  have hD := hD0.self (sz := s.heap.size)
  generalize hAe : va_A [(mh, .inr (7, [.ref ca, .ref la, .ref sg, .ref pl, .ref rw, .ref tw, .ref ga, .ref pa, .int ni, .int li, .int mi, .int mv, .int nx, .int al, .int nc, .int nl])), (pa, .inl (cI, 6, .inl pt))] s.heap.size = A at hD hG
  have hA : ∀ q : Nat, s.heap.size ≤ q → A q := fun q h => by rw [← hAe]; exact Or.inr h
  have hS : va_S A s.heap s.heap [] := va_S.rf
  have hP : va_P (dC, dI) vwCl [(mh, .inr (7, [.ref ca, .ref la, .ref sg, .ref pl, .ref rw, .ref tw, .ref ga, .ref pa, .int ni, .int li, .int mi, .int mv, .int nx, .int al, .int nc, .int nl])), (pa, .inl (cI, 6, .inl pt))] s.heap := hP
  have hl := lv_entry ([.ref mh, .int p1]) (n := 4) (Nat.le_of_ble_eq_true rfl)
  rw [lg_entry_eq]
  generalize (lg_sl ([.ref mh, .int p1]) ++ List.replicate (4 - (lg_sl ([.ref mh, .int p1])).length) Slot.unset).toArray = ls at hl ⊢
  have hl : lv_has ls 4 [(0, .ref mh), (1, .int p1)] := hl
  refine lv_iload_n hx hb dX7_share_0 rfl (lv_at hl 1 rfl) ?_
  refine zxSv (px := fun k9 => (xX7_needMask p1) = k9 ∧ k9 ≠ 0) (vx_runS (As := [.int p1]) (rest := []) ⟨hx, hb, hml, hown, hts⟩ (c_X7_needMask l hfl dC dI cI cJ s.heap.size p1 ) (va_cwS 1 hts gX7_share_X7_needMask rfl rfl rfl (by decide +kernel) ⟨Nat.le_of_ble_eq_true rfl, Nat.le_of_ble_eq_true rfl⟩) (zpS hK hP hD hS hA hG [] (by decide) rfl) rfl rfl hl.1 rfl (lv_room (Nat.le_of_ble_eq_true rfl)) dX7_share_1 ⟨Nat.le_of_ble_eq_true rfl, Nat.le_of_ble_eq_true rfl⟩) (fun q h => h) hS hA (fun k9 ce q9 H1 locs1 hw_1 hz1 hk1 hS1 hlo hce hcv hcl => ?_) (fun hw_1 => ?_)
  · exact vx_out (mc := 1) (ms := 6) (fun x h => (hto x h).elim) hlocks hce hcv hcl (fun t ht hW => ⟨k9, ⟨(by have hn9 := hw_1.2; rw [← hw_1.1] at hn9; rw [← hw_1.1]; unfold xX7_share; rw [if_neg hn9]), hw_1.2⟩, rfl, (by rw [ht]; exact hz1), (fun q h9 _ => by rw [ht]; exact hk1 q h9)⟩) (by rw [hlo rfl]; exact fun z h => absurd h List.not_mem_nil) (by decide) (by decide)
  · refine lv_iconst (v := 0) hx hb dX7_share_4 (by decide) ?_
    refine lv_istore_n (lv' := [(2, .int (0 : Int32)), (0, .ref mh), (1, .int p1)]) hx hb dX7_share_5 rfl hl (by decide) rfl (fun ls hl => ?_)
    refine lv_iconst (v := 0) hx hb dX7_share_6 (by decide) ?_
    refine lv_istore_n (lv' := [(3, .int (0 : Int32)), (2, .int (0 : Int32)), (0, .ref mh), (1, .int p1)]) hx hb dX7_share_7 rfl hl (by decide) rfl (fun ls hl => ?_)
    refine zNm (fun R9 Q9 hR9 hQ9 => ?_)
    have L8 : ∀ (n8 : Nat) (su1 : Int32) (i1 : Int32), 0 ≤ i1.toInt → ((6 : Int32)).toInt - i1.toInt < n8 ∧ 0 < n8 → 0 = xX7_share ni li mi mv nx al nc nl pt p1 → lX7_share_8_r ni li mi mv nx al nc nl pt p1 n8 su1 i1 = rX7_share ni li mi mv nx al nc nl pt p1 → ∀ (ls : Array Slot), lv_has ls 4 [(3, .int i1), (2, .int su1), (0, .ref mh), (1, .int p1)] → W p l e R9 s m ([.ref mh, .int p1] : List Value).toArray below meth c s.heap [] 0 0 Q9 (F0 m 8 ls []) := by
      subst hR9; subst hQ9
      intro n8
      induction n8 with
      | zero => intro su1 i1 hi0 hi2; exact absurd hi2.2 (by decide)
      | succ n8 ih8 =>
        intro su1 i1 hi0 hi2 hres8_x hres8_r ls hl
        refine lv_iload_n hx hb dX7_share_8 rfl (lv_at hl 0 rfl) ?_
        refine lv_bipush (v := 6) hx hb dX7_share_9 (by decide) ?_
        refine zNm (fun R9 Q9 hR9 hQ9 => ?_)
        have J29 : qX7_share_29_x ni li mi mv nx al nc nl pt p1 su1 i1 = xX7_share ni li mi mv nx al nc nl pt p1 → qX7_share_29_r ni li mi mv nx al nc nl pt p1 su1 i1 = rX7_share ni li mi mv nx al nc nl pt p1 → ∀ (ls : Array Slot), lv_has ls 4 [(3, .int i1), (2, .int su1), (0, .ref mh), (1, .int p1)] → W p l e R9 s m ([.ref mh, .int p1] : List Value).toArray below meth c s.heap [] 0 0 Q9 (F0 m 29 ls []) := by
          subst hR9; subst hQ9
          intro hj29_x hj29_r
          intro ls hl
          refine lv_iload_n hx hb dX7_share_29 rfl (lv_at hl 1 rfl) ?_
          refine lv_if_ne (tgt := 35) hx hb dX7_share_30 (by decide) (fun c_2 => ?_) (fun c_2 => ?_)
          · refine lv_aload_n hx hb dX7_share_35 rfl (lv_at hl 2 rfl) ?_
            refine va_get (D := (dC, dI)) (ci := 7) (v := .int al) (C := RX7) (T := TX7) (N := 16) hx hb hts iX7_share_X7 hown hK hP 0 rfl rfl 13 (by decide) (hts _ kX7_share_1) (fun _ h9 => h9) rfl dX7_share_36 ?_
            refine lv_i2d hx hb dX7_share_39 ?_
            refine lv_aload_n hx hb dX7_share_40 rfl (lv_at hl 2 rfl) ?_
            refine va_get (D := (dC, dI)) (ci := 7) (v := .ref pa) (C := RX7) (T := TX7) (N := 16) hx hb hts iX7_share_X7 hown hK hP 0 rfl rfl 7 (by decide) (hts _ kX7_share_2) (fun _ h9 => h9) rfl dX7_share_41 ?_
            refine lv_iload_n hx hb dX7_share_44 rfl (lv_at hl 3 rfl) ?_
            refine va_iald hx hb hK hP 1 0 rfl rfl (i := p1) (zM (by assumption)) dX7_share_45 ?_
            refine lv_i2d hx hb dX7_share_46 ?_
            refine lv_dmul hx hb dX7_share_47 (zfMulN _ _) ?_
            refine lv_iload_n hx hb dX7_share_48 rfl (lv_at hl 1 rfl) ?_
            refine lv_i2d hx hb dX7_share_49 ?_
            refine lv_ddiv hx hb dX7_share_50 (zfDivN _ _ _ c_2) ?_
            exact W.widen (k := 1) (n := 6) (by decide) (by decide) (vx_ret (W.dret (v := (FP.ddiv (FP.dmul (FP.i2d al) (FP.i2d (pt (p1).toNatClampNeg))) (FP.i2d su1))) hx hb hr (fun t ht hW => ⟨_, rfl, ⟨(by rw [← hj29_x]; unfold qX7_share_29_x; rfl), (by rw [← hj29_r]; unfold qX7_share_29_r; rw [if_neg c_2])⟩, ht⟩) (fun q hq => absurd hq List.not_mem_nil) dX7_share_51))
          · refine lv_dconst0 hx hb dX7_share_33 ?_
            exact W.widen (k := 1) (n := 6) (by decide) (by decide) (vx_ret (W.dret (v := FP.dconst0) hx hb hr (fun t ht hW => ⟨_, rfl, ⟨(by rw [← hj29_x]; unfold qX7_share_29_x; rfl), (by rw [← hj29_r]; unfold qX7_share_29_r; rw [if_pos c_2])⟩, ht⟩) (fun q hq => absurd hq List.not_mem_nil) dX7_share_34))
        subst hR9; subst hQ9
        refine lv_icmp_ge (tgt := 29) hx hb dX7_share_11 (by decide) (fun c_3 => ?_) (fun c_3 => ?_)
        · exact J29 (by rw [← hres8_x]; rfl) (by rw [← hres8_r]; rw [lX7_share_8_r]; rw [if_pos c_3]) _ (lv_sub hl [0, 1, 2, 3] rfl)
        · refine lv_iload_n hx hb dX7_share_14 rfl (lv_at hl 1 rfl) ?_
          refine lv_aload_n hx hb dX7_share_15 rfl (lv_at hl 2 rfl) ?_
          refine va_get (D := (dC, dI)) (ci := 7) (v := .ref pa) (C := RX7) (T := TX7) (N := 16) hx hb hts iX7_share_X7 hown hK hP 0 rfl rfl 7 (by decide) (hts _ kX7_share_2) (fun _ h9 => h9) rfl dX7_share_16 ?_
          refine lv_iload_n hx hb dX7_share_19 rfl (lv_at hl 0 rfl) ?_
          refine va_iald hx hb hK hP 1 0 rfl rfl (i := i1) (by first | assumption | exact zin_a (by assumption) (by assumption) (by assumption) | exact zin_c (by assumption) (by assumption) (by assumption) | exact zin_c (by assumption) (by assumption) (by decide) | exact zin_e (by assumption) (by assumption) (by decide) | exact zin_e (by assumption) (by assumption) (by assumption) | exact zin_f (by assumption) (by assumption) (by assumption)) dX7_share_20 ?_
          refine lv_iadd hx hb dX7_share_21 ?_
          refine lv_istore_n (lv' := [(2, .int (su1 + (pt (i1).toNatClampNeg))), (3, .int i1), (0, .ref mh), (1, .int p1)]) hx hb dX7_share_22 rfl hl (by decide) rfl (fun ls hl => ?_)
          refine lv_iinc (v := (i1 + 1)) (lv' := [(3, .int (i1 + 1)), (2, .int (su1 + (pt (i1).toNatClampNeg))), (0, .ref mh), (1, .int p1)]) hx hb dX7_share_23 hl (k := 1) rfl rfl (by decide) rfl (fun ls hl => ?_)
          refine lv_goto (tgt := 8) hx hb dX7_share_26 (by decide) ?_
          exact ih8 (su1 + (pt (i1).toNatClampNeg)) (i1 + 1) (by have h9 := zInc (x := i1) (y := (6 : Int32)) (by assumption); omega) (by have h9 := zInc (x := i1) (y := (6 : Int32)) (by assumption); have h8 := zGo (x := i1) (y := (6 : Int32)) (by assumption); omega) (by rw [← hres8_x]) (by rw [← hres8_r]; rw [lX7_share_8_r]; rw [if_neg c_3]) _ (lv_sub hl [0, 1, 2, 3] rfl)
    subst hR9; subst hQ9
    exact L8 7 (0 : Int32) (0 : Int32) (by decide) (by decide) (by unfold xX7_share; rw [if_pos hw_1]) (by unfold rX7_share; rfl) _ (lv_sub hl [0, 1, 2, 3] rfl)

/-! X8_share -/
def jX8_share_13_0 (nSt : Int32) (nIl : Int32) (nBa : Int32) (nGa : Int32) (nNs : Int32) (nLi : Int32) (nMi : Int32) (nNx : Int32) (nMv : Int32) (nOn : Int32) (nLa : Int32) (nCl : Int32) (nLn : Int32) (nTh : Int32) (mPt : Nat → Int32) (p1 : Int32) : Int32 := (if (rX8_isMask p1) = 0 then (1 : Int32) else (0 : Int32))
theorem bjX8_share_13_0 (nSt : Int32) (nIl : Int32) (nBa : Int32) (nGa : Int32) (nNs : Int32) (nLi : Int32) (nMi : Int32) (nNx : Int32) (nMv : Int32) (nOn : Int32) (nLa : Int32) (nCl : Int32) (nLn : Int32) (nTh : Int32) (mPt : Nat → Int32) (p1 : Int32) : jX8_share_13_0 nSt nIl nBa nGa nNs nLi nMi nNx nMv nOn nLa nCl nLn nTh mPt p1 = 0 ∨ jX8_share_13_0 nSt nIl nBa nGa nNs nLi nMi nNx nMv nOn nLa nCl nLn nTh mPt p1 = 1 := by
  unfold jX8_share_13_0
  repeat' split
  all_goals first | exact Or.inl rfl | exact Or.inr rfl
def qX8_share_46_r (nSt : Int32) (nIl : Int32) (nBa : Int32) (nGa : Int32) (nNs : Int32) (nLi : Int32) (nMi : Int32) (nNx : Int32) (nMv : Int32) (nOn : Int32) (nLa : Int32) (nCl : Int32) (nLn : Int32) (nTh : Int32) (mPt : Nat → Int32) (p1 : Int32) (su1 : Int32) (i1 : Int32) : UInt64 := (if su1 = 0 then FP.dconst0 else (FP.ddiv (FP.dmul (FP.i2d nLa) (FP.i2d (mPt (p1).toNatClampNeg))) (FP.i2d su1)))
def lX8_share_25_r (nSt : Int32) (nIl : Int32) (nBa : Int32) (nGa : Int32) (nNs : Int32) (nLi : Int32) (nMi : Int32) (nNx : Int32) (nMv : Int32) (nOn : Int32) (nLa : Int32) (nCl : Int32) (nLn : Int32) (nTh : Int32) (mPt : Nat → Int32) (p1 : Int32) : Nat → (Int32) → (Int32) → (UInt64)
  | 0, _, _ => 0
  | n25 + 1, su1, i1 => (if (6 : Int32) ≤ i1 then (qX8_share_46_r nSt nIl nBa nGa nNs nLi nMi nNx nMv nOn nLa nCl nLn nTh mPt p1 su1 i1) else (lX8_share_25_r nSt nIl nBa nGa nNs nLi nMi nNx nMv nOn nLa nCl nLn nTh mPt p1 n25 (su1 + (mPt (i1).toNatClampNeg)) (i1 + 1)))
def qX8_share_46_nTh (nSt : Int32) (nIl : Int32) (nBa : Int32) (nGa : Int32) (nNs : Int32) (nLi : Int32) (nMi : Int32) (nNx : Int32) (nMv : Int32) (nOn : Int32) (nLa : Int32) (nCl : Int32) (nLn : Int32) (nTh : Int32) (mPt : Nat → Int32) (p1 : Int32) (su1 : Int32) (i1 : Int32) : Int32 := (oX8_fails_nTh nSt nIl nBa nGa nNs nLi nMi nNx nMv nOn nLa nCl nLn nTh (jX8_share_13_0 nSt nIl nBa nGa nNs nLi nMi nNx nMv nOn nLa nCl nLn nTh mPt p1))
def lX8_share_25_nTh (nSt : Int32) (nIl : Int32) (nBa : Int32) (nGa : Int32) (nNs : Int32) (nLi : Int32) (nMi : Int32) (nNx : Int32) (nMv : Int32) (nOn : Int32) (nLa : Int32) (nCl : Int32) (nLn : Int32) (nTh : Int32) (mPt : Nat → Int32) (p1 : Int32) : Nat → (Int32) → (Int32) → (Int32)
  | 0, _, _ => 0
  | n25 + 1, su1, i1 => (if (6 : Int32) ≤ i1 then (qX8_share_46_nTh nSt nIl nBa nGa nNs nLi nMi nNx nMv nOn nLa nCl nLn nTh mPt p1 su1 i1) else (lX8_share_25_nTh nSt nIl nBa nGa nNs nLi nMi nNx nMv nOn nLa nCl nLn nTh mPt p1 n25 (su1 + (mPt (i1).toNatClampNeg)) (i1 + 1)))
def rX8_share (nSt : Int32) (nIl : Int32) (nBa : Int32) (nGa : Int32) (nNs : Int32) (nLi : Int32) (nMi : Int32) (nNx : Int32) (nMv : Int32) (nOn : Int32) (nLa : Int32) (nCl : Int32) (nLn : Int32) (nTh : Int32) (mPt : Nat → Int32) (p1 : Int32) : UInt64 := (if (rX8_fails nSt nIl nBa nGa nNs nLi nMi nNx nMv nOn nLa nCl nLn nTh (jX8_share_13_0 nSt nIl nBa nGa nNs nLi nMi nNx nMv nOn nLa nCl nLn nTh mPt p1)) = 0 then (lX8_share_25_r nSt nIl nBa nGa nNs nLi nMi nNx nMv nOn nLa nCl nLn nTh mPt p1 7 (0 : Int32) (0 : Int32)) else FP.dconst0)
def oX8_share_nTh (nSt : Int32) (nIl : Int32) (nBa : Int32) (nGa : Int32) (nNs : Int32) (nLi : Int32) (nMi : Int32) (nNx : Int32) (nMv : Int32) (nOn : Int32) (nLa : Int32) (nCl : Int32) (nLn : Int32) (nTh : Int32) (mPt : Nat → Int32) (p1 : Int32) : Int32 := (if (rX8_fails nSt nIl nBa nGa nNs nLi nMi nNx nMv nOn nLa nCl nLn nTh (jX8_share_13_0 nSt nIl nBa nGa nNs nLi nMi nNx nMv nOn nLa nCl nLn nTh mPt p1)) = 0 then (lX8_share_25_nTh nSt nIl nBa nGa nNs nLi nMi nNx nMv nOn nLa nCl nLn nTh mPt p1 7 (0 : Int32) (0 : Int32)) else (oX8_fails_nTh nSt nIl nBa nGa nNs nLi nMi nNx nMv nOn nLa nCl nLn nTh (jX8_share_13_0 nSt nIl nBa nGa nNs nLi nMi nNx nMv nOn nLa nCl nLn nTh mPt p1)))
set_option maxRecDepth 20000 in
theorem iX8_share_X8 : ∀ w ∈ u_ws RX8 TX8 29, w ∈ wsX8_share := by decide +kernel
set_option maxRecDepth 20000 in
theorem kX8_share_1 : Cond.fieldLink RX8 146 "MaskHallModel" "laughs" "I" ∈ wsX8_share := by decide +kernel
set_option maxRecDepth 20000 in
theorem kX8_share_2 : Cond.fieldLink RX8 40 "MaskHallModel" "points" "[I" ∈ wsX8_share := by decide +kernel
set_option maxHeartbeats 1100000 in
set_option maxRecDepth 100000 in
theorem c_X8_share (l : Launch) (dC : Nat → ClassId) (dI : Nat → Nat → Nat) (cI cJ : ClassId) (w0 aPt aFk aFh aKi aOn aOt aWh aLe aWi aPr aPl aKn aHa aKt aHt : Nat) (sz : Nat) (nSt : Int32) (nIl : Int32) (nBa : Int32) (nGa : Int32) (nNs : Int32) (nLi : Int32) (nMi : Int32) (nNx : Int32) (nMv : Int32) (nOn : Int32) (nLa : Int32) (nCl : Int32) (nLn : Int32) (nTh : Int32) (mPt : Nat → Int32) (p1 : Int32) : Met l yX8_share wsX8_share ({ frames := 2, cells := 0, slots := 0, locals := 42 }) (va_Pc [.ref w0, .int p1] (zI (dC, dI) [(cI, .int), (cJ, .long)] [(w0, .inr (8, [.ref aFk, .ref aFh, .int nSt, .ref aKi, .ref aOn, .ref aOt, .ref aWh, .int nIl, .int nBa, .int nGa, .ref aLe, .ref aWi, .ref aPr, .ref aPl, .ref aPt, .int nNs, .int nLi, .int nMi, .int nNx, .int nMv, .int nOn, .ref aKn, .ref aHa, .int nLa, .int nCl, .int nLn, .ref aKt, .ref aHt, .int nTh])), (aPt, .inl (cI, 6, .inl mPt))] sz)) (va_Qd (fun (r : UInt64) (u : (Int32)) => r = rX8_share nSt nIl nBa nGa nNs nLi nMi nNx nMv nOn nLa nCl nLn nTh mPt p1 ∧ u = oX8_share_nTh nSt nIl nBa nGa nNs nLi nMi nNx nMv nOn nLa nCl nLn nTh mPt p1) (fun u => zO (dC, dI) [(cI, .int), (cJ, .long)] [(w0, .inr (8, [.ref aFk, .ref aFh, .int nSt, .ref aKi, .ref aOn, .ref aOt, .ref aWh, .int nIl, .int nBa, .int nGa, .ref aLe, .ref aWi, .ref aPr, .ref aPl, .ref aPt, .int nNs, .int nLi, .int nMi, .int nNx, .int nMv, .int nOn, .ref aKn, .ref aHa, .int nLa, .int nCl, .int nLn, .ref aKt, .ref aHt, .int u])), (aPt, .inl (cI, 6, .inl mPt))] (va_A [(w0, .inr (8, [.ref aFk, .ref aFh, .int nSt, .ref aKi, .ref aOn, .ref aOt, .ref aWh, .int nIl, .int nBa, .int nGa, .ref aLe, .ref aWi, .ref aPr, .ref aPl, .ref aPt, .int nNs, .int nLi, .int nMi, .int nNx, .int nMv, .int nOn, .ref aKn, .ref aHa, .int nLa, .int nCl, .int nLn, .ref aKt, .ref aHt, .int nTh])), (aPt, .inl (cI, 6, .inl mPt))] sz)) (va_A [(w0, .inr (8, [.ref aFk, .ref aFh, .int nSt, .ref aKi, .ref aOn, .ref aOt, .ref aWh, .int nIl, .int nBa, .int nGa, .ref aLe, .ref aWi, .ref aPr, .ref aPl, .ref aPt, .int nNs, .int nLi, .int nMi, .int nNx, .int nMv, .int nOn, .ref aKn, .ref aHa, .int nLa, .int nCl, .int nLn, .ref aKt, .ref aHt, .int nTh])), (aPt, .inl (cI, 6, .inl mPt))] sz)) 0 0 (va_A [(w0, .inr (8, [.ref aFk, .ref aFh, .int nSt, .ref aKi, .ref aOn, .ref aOt, .ref aWh, .int nIl, .int nBa, .int nGa, .ref aLe, .ref aWi, .ref aPr, .ref aPl, .ref aPt, .int nNs, .int nLi, .int nMi, .int nNx, .int nMv, .int nOn, .ref aKn, .ref aHa, .int nLa, .int nCl, .int nLn, .ref aKt, .ref aHt, .int nTh])), (aPt, .inl (cI, 6, .inl mPt))] sz) := by
  refine Met.ofW (cc := cX8_share) (maxL := 4) (ret := (some .double)) (by decide) rfl ?_
  intro p e s m args below meth c s₁ B hml hv
  obtain ⟨rfl, hsz, hP, hK, hD0, hG⟩ := hv
  have hx := B.exec
  have hb := B.bytes
  have hr := B.returns
  have hts := atoms_spec (ws := wsX8_share) B.pre
  have hown : s.vm.findClass RX8 = some m.cls := findClass_of_methodNamed B.named
  have hlocks := B.notSynchronized
  subst hsz
  have hD := hD0.self (sz := s.heap.size)
  generalize hAe : va_A [(w0, .inr (8, [.ref aFk, .ref aFh, .int nSt, .ref aKi, .ref aOn, .ref aOt, .ref aWh, .int nIl, .int nBa, .int nGa, .ref aLe, .ref aWi, .ref aPr, .ref aPl, .ref aPt, .int nNs, .int nLi, .int nMi, .int nNx, .int nMv, .int nOn, .ref aKn, .ref aHa, .int nLa, .int nCl, .int nLn, .ref aKt, .ref aHt, .int nTh])), (aPt, .inl (cI, 6, .inl mPt))] s.heap.size = A at hD hG ⊢
  have hA : ∀ q : Nat, s.heap.size ≤ q → A q := fun q h => by rw [← hAe]; exact Or.inr h
  have hS : va_S A s.heap s.heap [] := va_S.rf
  have hP : va_P (dC, dI) vwCl [(w0, .inr (8, [.ref aFk, .ref aFh, .int nSt, .ref aKi, .ref aOn, .ref aOt, .ref aWh, .int nIl, .int nBa, .int nGa, .ref aLe, .ref aWi, .ref aPr, .ref aPl, .ref aPt, .int nNs, .int nLi, .int nMi, .int nNx, .int nMv, .int nOn, .ref aKn, .ref aHa, .int nLa, .int nCl, .int nLn, .ref aKt, .ref aHt, .int nTh])), (aPt, .inl (cI, 6, .inl mPt))] s.heap := hP
  have hl := lv_entry ([.ref w0, .int p1]) (n := 4) (Nat.le_of_ble_eq_true rfl)
  rw [lg_entry_eq]
  generalize (lg_sl ([.ref w0, .int p1]) ++ List.replicate (4 - (lg_sl ([.ref w0, .int p1])).length) Slot.unset).toArray = ls at hl ⊢
  have hl : lv_has ls 4 [(0, .ref w0), (1, .int p1)] := hl
  refine lv_aload_n hx hb dX8_share_0 rfl (lv_at hl 0 rfl) ?_
  refine lv_iload_n hx hb dX8_share_1 rfl (lv_at hl 1 rfl) ?_
  refine zcSi (va_runS (As := [.int p1]) (rest := [.ref w0]) ⟨hx, hb, hml, hown, hts⟩ (c_X8_isMask l dC dI cI cJ s.heap.size p1 ) (va_cwS 1 hts gX8_share_X8_isMask rfl rfl rfl (by decide +kernel) ⟨Nat.le_of_ble_eq_true rfl, Nat.le_of_ble_eq_true rfl⟩) (zpS hK hP hD hS hA hG [] (by decide) rfl) rfl rfl hl.1 rfl (lv_room (Nat.le_of_ble_eq_true rfl)) dX8_share_2 ⟨Nat.le_of_ble_eq_true rfl, Nat.le_of_ble_eq_true rfl⟩) ?_
  refine zNm (fun R9 Q9 hR9 hQ9 => ?_)
  have J13 : ∀ (v13_0 : Int32), v13_0 = (jX8_share_13_0 nSt nIl nBa nGa nNs nLi nMi nNx nMv nOn nLa nCl nLn nTh mPt p1) → ∀ (ls : Array Slot), lv_has ls 4 [(0, .ref w0), (1, .int p1)] → W p l e R9 s m ([.ref w0, .int p1] : List Value).toArray below meth c s.heap [] 0 0 Q9 (F0 m 13 ls [.int v13_0, .ref w0]) := by
    subst hR9; subst hQ9
    intro v13_0 hvv13_0
    rw [hvv13_0]; clear hvv13_0 v13_0
    intro ls hl
    refine zkI (wr := [(aPt, .inl (cI, 6, .inl mPt))]) (r0 := (rX8_fails nSt nIl nBa nGa nNs nLi nMi nNx nMv nOn nLa nCl nLn nTh (jX8_share_13_0 nSt nIl nBa nGa nNs nLi nMi nNx nMv nOn nLa nCl nLn nTh mPt p1))) (u0 := ((oX8_fails_nTh nSt nIl nBa nGa nNs nLi nMi nNx nMv nOn nLa nCl nLn nTh (jX8_share_13_0 nSt nIl nBa nGa nNs nLi nMi nNx nMv nOn nLa nCl nLn nTh mPt p1)))) (va_runV (As := [.int (jX8_share_13_0 nSt nIl nBa nGa nNs nLi nMi nNx nMv nOn nLa nCl nLn nTh mPt p1)]) (rest := []) ⟨hx, hb, hml, hown, hts⟩ (c_X8_fails l dC dI cI cJ w0 aFk aFh aKi aOn aOt aWh aLe aWi aPr aPl aPt aKn aHa aKt aHt s.heap.size nSt nIl nBa nGa nNs nLi nMi nNx nMv nOn nLa nCl nLn nTh (jX8_share_13_0 nSt nIl nBa nGa nNs nLi nMi nNx nMv nOn nLa nCl nLn nTh mPt p1) ) (cwV 1 hts gX8_share_X8_fails rfl rfl rfl (by decide +kernel) ⟨Nat.le_of_ble_eq_true rfl, Nat.le_of_ble_eq_true rfl⟩) (zpV hK hP hD hS hA hG [0] (by decide) rfl 8 0 rfl rfl) rfl rfl hl.1 rfl (lv_room (Nat.le_of_ble_eq_true rfl)) dX8_share_13 ⟨Nat.le_of_ble_eq_true rfl, Nat.le_of_ble_eq_true rfl⟩) (fun r u h => ⟨h.1, h.2⟩) hP hD hS hA [0] [1] rfl rfl (by decide) (by decide) (fun H locs hP hD hS => ?_)
    try dsimp only [List.cons_append, List.nil_append] at hP hD
    have hP : va_P (dC, dI) vwCl [(aPt, .inl (cI, 6, .inl mPt)), (w0, .inr (8, [.ref aFk, .ref aFh, .int nSt, .ref aKi, .ref aOn, .ref aOt, .ref aWh, .int nIl, .int nBa, .int nGa, .ref aLe, .ref aWi, .ref aPr, .ref aPl, .ref aPt, .int nNs, .int nLi, .int nMi, .int nNx, .int nMv, .int nOn, .ref aKn, .ref aHa, .int nLa, .int nCl, .int nLn, .ref aKt, .ref aHt, .int (oX8_fails_nTh nSt nIl nBa nGa nNs nLi nMi nNx nMv nOn nLa nCl nLn nTh (jX8_share_13_0 nSt nIl nBa nGa nNs nLi nMi nNx nMv nOn nLa nCl nLn nTh mPt p1))]))] H := hP
    have hD : va_D A [(aPt, .inl (cI, 6, .inl mPt)), (w0, .inr (8, [.ref aFk, .ref aFh, .int nSt, .ref aKi, .ref aOn, .ref aOt, .ref aWh, .int nIl, .int nBa, .int nGa, .ref aLe, .ref aWi, .ref aPr, .ref aPl, .ref aPt, .int nNs, .int nLi, .int nMi, .int nNx, .int nMv, .int nOn, .ref aKn, .ref aHa, .int nLa, .int nCl, .int nLn, .ref aKt, .ref aHt, .int (oX8_fails_nTh nSt nIl nBa nGa nNs nLi nMi nNx nMv nOn nLa nCl nLn nTh (jX8_share_13_0 nSt nIl nBa nGa nNs nLi nMi nNx nMv nOn nLa nCl nLn nTh mPt p1))]))] := hD
    refine lv_if_eq (tgt := 21) hx hb dX8_share_16 (by decide) (fun c_1 => ?_) (fun c_1 => ?_)
    · refine lv_iconst (v := 0) hx hb dX8_share_21 (by decide) ?_
      refine lv_istore_n (lv' := [(2, .int (0 : Int32)), (0, .ref w0), (1, .int p1)]) hx hb dX8_share_22 rfl hl (by decide) rfl (fun ls hl => ?_)
      refine lv_iconst (v := 0) hx hb dX8_share_23 (by decide) ?_
      refine lv_istore_n (lv' := [(3, .int (0 : Int32)), (2, .int (0 : Int32)), (0, .ref w0), (1, .int p1)]) hx hb dX8_share_24 rfl hl (by decide) rfl (fun ls hl => ?_)
      refine zNm (fun R9 Q9 hR9 hQ9 => ?_)
      have L25 : ∀ (n25 : Nat) (su1 : Int32) (i1 : Int32), 0 ≤ i1.toInt → ((6 : Int32)).toInt - i1.toInt < n25 ∧ 0 < n25 → lX8_share_25_r nSt nIl nBa nGa nNs nLi nMi nNx nMv nOn nLa nCl nLn nTh mPt p1 n25 su1 i1 = rX8_share nSt nIl nBa nGa nNs nLi nMi nNx nMv nOn nLa nCl nLn nTh mPt p1 → lX8_share_25_nTh nSt nIl nBa nGa nNs nLi nMi nNx nMv nOn nLa nCl nLn nTh mPt p1 n25 su1 i1 = oX8_share_nTh nSt nIl nBa nGa nNs nLi nMi nNx nMv nOn nLa nCl nLn nTh mPt p1 → ∀ (H : Heap) (locs : List Loc) (ls : Array Slot), va_P (dC, dI) vwCl [(aPt, .inl (cI, 6, .inl mPt)), (w0, .inr (8, [.ref aFk, .ref aFh, .int nSt, .ref aKi, .ref aOn, .ref aOt, .ref aWh, .int nIl, .int nBa, .int nGa, .ref aLe, .ref aWi, .ref aPr, .ref aPl, .ref aPt, .int nNs, .int nLi, .int nMi, .int nNx, .int nMv, .int nOn, .ref aKn, .ref aHa, .int nLa, .int nCl, .int nLn, .ref aKt, .ref aHt, .int (oX8_fails_nTh nSt nIl nBa nGa nNs nLi nMi nNx nMv nOn nLa nCl nLn nTh (jX8_share_13_0 nSt nIl nBa nGa nNs nLi nMi nNx nMv nOn nLa nCl nLn nTh mPt p1))]))] H → va_D A [(aPt, .inl (cI, 6, .inl mPt)), (w0, .inr (8, [.ref aFk, .ref aFh, .int nSt, .ref aKi, .ref aOn, .ref aOt, .ref aWh, .int nIl, .int nBa, .int nGa, .ref aLe, .ref aWi, .ref aPr, .ref aPl, .ref aPt, .int nNs, .int nLi, .int nMi, .int nNx, .int nMv, .int nOn, .ref aKn, .ref aHa, .int nLa, .int nCl, .int nLn, .ref aKt, .ref aHt, .int (oX8_fails_nTh nSt nIl nBa nGa nNs nLi nMi nNx nMv nOn nLa nCl nLn nTh (jX8_share_13_0 nSt nIl nBa nGa nNs nLi nMi nNx nMv nOn nLa nCl nLn nTh mPt p1))]))] → va_S A s.heap H locs → lv_has ls 4 [(3, .int i1), (2, .int su1), (0, .ref w0), (1, .int p1)] → W p l e R9 s m ([.ref w0, .int p1] : List Value).toArray below meth c H locs 0 0 Q9 (F0 m 25 ls []) := by
        subst hR9; subst hQ9
        intro n25
        induction n25 with
        | zero => intro su1 i1 hi0 hi2; exact absurd hi2.2 (by decide)
        | succ n25 ih25 =>
          intro su1 i1 hi0 hi2 hres25_r hres25_nTh H locs ls hP hD hS hl
          refine lv_iload_n hx hb dX8_share_25 rfl (lv_at hl 0 rfl) ?_
          refine lv_bipush (v := 6) hx hb dX8_share_26 (by decide) ?_
          refine zNm (fun R9 Q9 hR9 hQ9 => ?_)
          have J46 : qX8_share_46_r nSt nIl nBa nGa nNs nLi nMi nNx nMv nOn nLa nCl nLn nTh mPt p1 su1 i1 = rX8_share nSt nIl nBa nGa nNs nLi nMi nNx nMv nOn nLa nCl nLn nTh mPt p1 → qX8_share_46_nTh nSt nIl nBa nGa nNs nLi nMi nNx nMv nOn nLa nCl nLn nTh mPt p1 su1 i1 = oX8_share_nTh nSt nIl nBa nGa nNs nLi nMi nNx nMv nOn nLa nCl nLn nTh mPt p1 → ∀ (H : Heap) (locs : List Loc) (ls : Array Slot), va_P (dC, dI) vwCl [(aPt, .inl (cI, 6, .inl mPt)), (w0, .inr (8, [.ref aFk, .ref aFh, .int nSt, .ref aKi, .ref aOn, .ref aOt, .ref aWh, .int nIl, .int nBa, .int nGa, .ref aLe, .ref aWi, .ref aPr, .ref aPl, .ref aPt, .int nNs, .int nLi, .int nMi, .int nNx, .int nMv, .int nOn, .ref aKn, .ref aHa, .int nLa, .int nCl, .int nLn, .ref aKt, .ref aHt, .int (oX8_fails_nTh nSt nIl nBa nGa nNs nLi nMi nNx nMv nOn nLa nCl nLn nTh (jX8_share_13_0 nSt nIl nBa nGa nNs nLi nMi nNx nMv nOn nLa nCl nLn nTh mPt p1))]))] H → va_D A [(aPt, .inl (cI, 6, .inl mPt)), (w0, .inr (8, [.ref aFk, .ref aFh, .int nSt, .ref aKi, .ref aOn, .ref aOt, .ref aWh, .int nIl, .int nBa, .int nGa, .ref aLe, .ref aWi, .ref aPr, .ref aPl, .ref aPt, .int nNs, .int nLi, .int nMi, .int nNx, .int nMv, .int nOn, .ref aKn, .ref aHa, .int nLa, .int nCl, .int nLn, .ref aKt, .ref aHt, .int (oX8_fails_nTh nSt nIl nBa nGa nNs nLi nMi nNx nMv nOn nLa nCl nLn nTh (jX8_share_13_0 nSt nIl nBa nGa nNs nLi nMi nNx nMv nOn nLa nCl nLn nTh mPt p1))]))] → va_S A s.heap H locs → lv_has ls 4 [(3, .int i1), (2, .int su1), (0, .ref w0), (1, .int p1)] → W p l e R9 s m ([.ref w0, .int p1] : List Value).toArray below meth c H locs 0 0 Q9 (F0 m 46 ls []) := by
            subst hR9; subst hQ9
            intro hj46_r hj46_nTh
            intro H locs ls hP hD hS hl
            refine lv_iload_n hx hb dX8_share_46 rfl (lv_at hl 1 rfl) ?_
            refine lv_if_ne (tgt := 54) hx hb dX8_share_47 (by decide) (fun c_2 => ?_) (fun c_2 => ?_)
            · refine lv_aload_n hx hb dX8_share_54 rfl (lv_at hl 2 rfl) ?_
              refine va_get (D := (dC, dI)) (ci := 8) (v := .int nLa) (C := RX8) (T := TX8) (N := 29) hx hb hts iX8_share_X8 hown hK hP 1 rfl rfl 23 (by decide) (hts _ kX8_share_1) (fun _ h9 => h9) rfl dX8_share_55 ?_
              refine lv_i2d hx hb dX8_share_58 ?_
              refine lv_aload_n hx hb dX8_share_59 rfl (lv_at hl 2 rfl) ?_
              refine va_get (D := (dC, dI)) (ci := 8) (v := .ref aPt) (C := RX8) (T := TX8) (N := 29) hx hb hts iX8_share_X8 hown hK hP 1 rfl rfl 14 (by decide) (hts _ kX8_share_2) (fun _ h9 => h9) rfl dX8_share_60 ?_
              refine lv_iload_n hx hb dX8_share_63 rfl (lv_at hl 3 rfl) ?_
              refine va_iald hx hb hK hP 0 0 rfl rfl (i := p1) (zM8 (fun h0 => absurd c_1 (by unfold rX8_fails jX8_share_13_0; simp [h0]))) dX8_share_64 ?_
              refine lv_i2d hx hb dX8_share_65 ?_
              refine lv_dmul hx hb dX8_share_66 (zfMulN _ _) ?_
              refine lv_iload_n hx hb dX8_share_67 rfl (lv_at hl 1 rfl) ?_
              refine lv_i2d hx hb dX8_share_68 ?_
              refine lv_ddiv hx hb dX8_share_69 (zfDivN _ _ _ c_2) ?_
              exact W.dret (v := (FP.ddiv (FP.dmul (FP.i2d nLa) (FP.i2d (mPt (p1).toNatClampNeg))) (FP.i2d su1))) hx hb hr (fun t ht hW => ⟨⟨(FP.ddiv (FP.dmul (FP.i2d nLa) (FP.i2d (mPt (p1).toNatClampNeg))) (FP.i2d su1)), ((oX8_fails_nTh nSt nIl nBa nGa nNs nLi nMi nNx nMv nOn nLa nCl nLn nTh (jX8_share_13_0 nSt nIl nBa nGa nNs nLi nMi nNx nMv nOn nLa nCl nLn nTh mPt p1))), rfl, ⟨(by rw [← hj46_r]; unfold qX8_share_46_r; rw [if_neg c_2]), (by rw [← hj46_nTh]; unfold qX8_share_46_nTh; rfl)⟩, (by (try dsimp only); rw [ht]; exact hP.sub [1, 0] rfl), va_K.moved hW.alike hK, (by (try dsimp only); exact hD.sub [1, 0] (by decide) rfl)⟩, hS.F ht⟩) hS.2.2 dX8_share_70
            · refine lv_dconst0 hx hb dX8_share_50 ?_
              refine lv_goto (tgt := 70) hx hb dX8_share_51 (by decide) ?_
              exact W.dret (v := FP.dconst0) hx hb hr (fun t ht hW => ⟨⟨FP.dconst0, ((oX8_fails_nTh nSt nIl nBa nGa nNs nLi nMi nNx nMv nOn nLa nCl nLn nTh (jX8_share_13_0 nSt nIl nBa nGa nNs nLi nMi nNx nMv nOn nLa nCl nLn nTh mPt p1))), rfl, ⟨(by rw [← hj46_r]; unfold qX8_share_46_r; rw [if_pos c_2]), (by rw [← hj46_nTh]; unfold qX8_share_46_nTh; rfl)⟩, (by (try dsimp only); rw [ht]; exact hP.sub [1, 0] rfl), va_K.moved hW.alike hK, (by (try dsimp only); exact hD.sub [1, 0] (by decide) rfl)⟩, hS.F ht⟩) hS.2.2 dX8_share_70
          subst hR9; subst hQ9
          refine lv_icmp_ge (tgt := 46) hx hb dX8_share_28 (by decide) (fun c_3 => ?_) (fun c_3 => ?_)
          · exact J46 (by rw [← hres25_r]; rw [lX8_share_25_r]; rw [if_pos c_3]) (by rw [← hres25_nTh]; rw [lX8_share_25_nTh]; rw [if_pos c_3]) _ _ _ hP hD hS (lv_sub hl [0, 1, 2, 3] rfl)
          · refine lv_iload_n hx hb dX8_share_31 rfl (lv_at hl 1 rfl) ?_
            refine lv_aload_n hx hb dX8_share_32 rfl (lv_at hl 2 rfl) ?_
            refine va_get (D := (dC, dI)) (ci := 8) (v := .ref aPt) (C := RX8) (T := TX8) (N := 29) hx hb hts iX8_share_X8 hown hK hP 1 rfl rfl 14 (by decide) (hts _ kX8_share_2) (fun _ h9 => h9) rfl dX8_share_33 ?_
            refine lv_iload_n hx hb dX8_share_36 rfl (lv_at hl 0 rfl) ?_
            refine va_iald hx hb hK hP 0 0 rfl rfl (i := i1) (by first | assumption | exact zin_a (by assumption) (by assumption) (by assumption) | exact zin_c (by assumption) (by assumption) (by assumption) | exact zin_c (by assumption) (by assumption) (by decide) | exact zin_e (by assumption) (by assumption) (by decide) | exact zin_e (by assumption) (by assumption) (by assumption) | exact zin_f (by assumption) (by assumption) (by assumption)) dX8_share_37 ?_
            refine lv_iadd hx hb dX8_share_38 ?_
            refine lv_istore_n (lv' := [(2, .int (su1 + (mPt (i1).toNatClampNeg))), (3, .int i1), (0, .ref w0), (1, .int p1)]) hx hb dX8_share_39 rfl hl (by decide) rfl (fun ls hl => ?_)
            refine lv_iinc (v := (i1 + 1)) (lv' := [(3, .int (i1 + 1)), (2, .int (su1 + (mPt (i1).toNatClampNeg))), (0, .ref w0), (1, .int p1)]) hx hb dX8_share_40 hl (k := 1) rfl rfl (by decide) rfl (fun ls hl => ?_)
            refine lv_goto (tgt := 25) hx hb dX8_share_43 (by decide) ?_
            exact ih25 (su1 + (mPt (i1).toNatClampNeg)) (i1 + 1) (by have h9 := zInc (x := i1) (y := (6 : Int32)) (by assumption); omega) (by have h9 := zInc (x := i1) (y := (6 : Int32)) (by assumption); have h8 := zGo (x := i1) (y := (6 : Int32)) (by assumption); omega) (by rw [← hres25_r]; rw [lX8_share_25_r]; rw [if_neg c_3]) (by rw [← hres25_nTh]; rw [lX8_share_25_nTh]; rw [if_neg c_3]) _ _ _ hP hD hS (lv_sub hl [0, 1, 2, 3] rfl)
      subst hR9; subst hQ9
      exact L25 7 (0 : Int32) (0 : Int32) (by decide) (by decide) (by unfold rX8_share; rw [if_pos c_1]) (by unfold oX8_share_nTh; rw [if_pos c_1]) _ _ _ hP hD hS (lv_sub hl [0, 1, 2, 3] rfl)
    · refine lv_dconst0 hx hb dX8_share_19 ?_
      exact W.dret (v := FP.dconst0) hx hb hr (fun t ht hW => ⟨⟨FP.dconst0, ((oX8_fails_nTh nSt nIl nBa nGa nNs nLi nMi nNx nMv nOn nLa nCl nLn nTh (jX8_share_13_0 nSt nIl nBa nGa nNs nLi nMi nNx nMv nOn nLa nCl nLn nTh mPt p1))), rfl, ⟨(by unfold rX8_share; rw [if_neg c_1]), (by unfold oX8_share_nTh; rw [if_neg c_1])⟩, (by (try dsimp only); rw [ht]; exact hP.sub [1, 0] rfl), va_K.moved hW.alike hK, (by (try dsimp only); exact hD.sub [1, 0] (by decide) rfl)⟩, hS.F ht⟩) hS.2.2 dX8_share_20
  subst hR9; subst hQ9
  refine lv_if_eq (tgt := 12) hx hb dX8_share_5 (by decide) (fun c_4 => ?_) (fun c_4 => ?_)
  · refine lv_iconst (v := 1) hx hb dX8_share_12 (by decide) ?_
    exact J13 (1 : Int32) (by unfold jX8_share_13_0; rw [if_pos c_4]) _ (lv_sub hl [0, 1] rfl)
  · refine lv_iconst (v := 0) hx hb dX8_share_8 (by decide) ?_
    refine lv_goto (tgt := 13) hx hb dX8_share_9 (by decide) ?_
    exact J13 (0 : Int32) (by unfold jX8_share_13_0; rw [if_neg c_4]) _ (lv_sub hl [0, 1] rfl)
theorem bxX7_share (ni : Int32) (li : Int32) (mi : Int32) (mv : Int32) (nx : Int32) (al : Int32) (nc : Int32) (nl : Int32) (pt : Nat → Int32) (p1 : Int32) : xX7_share ni li mi mv nx al nc nl pt p1 = 0 ∨ xX7_share ni li mi mv nx al nc nl pt p1 = 1 := by
  have h0 := bxX7_needMask p1
  unfold xX7_share
  repeat' split
  all_goals omega
