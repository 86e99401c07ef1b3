/-! X7_share -/
def qX7_share_29_x (ni : Int32) (li : Int32) (mi : Int32) (mv : Int32) (nx : Int32) (al : Int32) (nc : Int32) (nl : Int32) (pt : Nat → Int32) (p1 : Int32) (su1 : Int32) (i1 : Int32) : Nat := 0
def qX7_share_29_r (ni : Int32) (li : Int32) (mi : Int32) (mv : Int32) (nx : Int32) (al : Int32) (nc : Int32) (nl : Int32) (pt : Nat → Int32) (p1 : Int32) (su1 : Int32) (i1 : Int32) : UInt64 := (if su1 = 0 then FP.dconst0 else (FP.ddiv (FP.dmul (FP.i2d al) (FP.i2d (pt (p1).toNatClampNeg))) (FP.i2d su1)))
def lX7_share_8_r (ni : Int32) (li : Int32) (mi : Int32) (mv : Int32) (nx : Int32) (al : Int32) (nc : Int32) (nl : Int32) (pt : Nat → Int32) (p1 : Int32) : Nat → (Int32) → (Int32) → (UInt64)
  | 0, _, _ => 0
  | n8 + 1, su1, i1 => (if (6 : Int32) ≤ i1 then (qX7_share_29_r ni li mi mv nx al nc nl pt p1 su1 i1) else (lX7_share_8_r ni li mi mv nx al nc nl pt p1 n8 (su1 + (pt (i1).toNatClampNeg)) (i1 + 1)))
def xX7_share (ni : Int32) (li : Int32) (mi : Int32) (mv : Int32) (nx : Int32) (al : Int32) (nc : Int32) (nl : Int32) (pt : Nat → Int32) (p1 : Int32) : Nat := (if (xX7_needMask p1) = 0 then 0 else (xX7_needMask p1))
def rX7_share (ni : Int32) (li : Int32) (mi : Int32) (mv : Int32) (nx : Int32) (al : Int32) (nc : Int32) (nl : Int32) (pt : Nat → Int32) (p1 : Int32) : UInt64 := (lX7_share_8_r ni li mi mv nx al nc nl pt p1 7 (0 : Int32) (0 : Int32))
set_option maxRecDepth 20000 in
theorem iX7_share_X7 : ∀ w ∈ u_ws RX7 TX7 16, w ∈ wsX7_share := by decide +kernel
set_option maxRecDepth 20000 in
theorem kX7_share_1 : Cond.fieldLink RX7 206 "MaskHall" "allLaughs" "I" ∈ wsX7_share := by decide +kernel
set_option maxRecDepth 20000 in
theorem kX7_share_2 : Cond.fieldLink RX7 60 "MaskHall" "pointsOf" "[I" ∈ wsX7_share := by decide +kernel
set_option maxHeartbeats 900000 in
set_option maxRecDepth 100000 in
theorem c_X7_share (l : Launch) (hfl : l.stackTraces = false) (dC : Nat → ClassId) (dI : Nat → Nat → Nat) (cI cJ : ClassId) (mh pa ca la sg pl rw tw ga : Nat) (sz : Nat) (ni : Int32) (li : Int32) (mi : Int32) (mv : Int32) (nx : Int32) (al : Int32) (nc : Int32) (nl : Int32) (pt : Nat → Int32) (p1 : Int32) : vx_Met l yX7_share wsX7_share ({ frames := 7, cells := 1, slots := 6, locals := 102 }) (va_Pc [.ref mh, .int p1] (zI (dC, dI) [(cI, .int), (cJ, .long)] [(mh, .inr (7, [.ref ca, .ref la, .ref sg, .ref pl, .ref rw, .ref tw, .ref ga, .ref pa, .int ni, .int li, .int mi, .int mv, .int nx, .int al, .int nc, .int nl])), (pa, .inl (cI, 6, .inl pt))] sz)) (vp_Sd (fun r => xX7_share ni li mi mv nx al nc nl pt p1 = 0 ∧ r = rX7_share ni li mi mv nx al nc nl pt p1)) (zX (fun k => xX7_share ni li mi mv nx al nc nl pt p1 = k ∧ k ≠ 0) sz) 1 6 (fun _ => False) := by
  refine vx_ofW (cc := cX7_share) (maxL := 4) (ret := (some .double)) (by decide) rfl ?_
  intro p e s m args below meth c s₁ B hml hto hv
  obtain ⟨rfl, hsz, hP, hK, hD0, hG⟩ := hv
  have hx := B.exec
  have hb := B.bytes
  have hr := B.returns
  have hts := atoms_spec (ws := wsX7_share) B.pre
  have hown : s.vm.findClass RX7 = some m.cls := findClass_of_methodNamed B.named
  have hlocks := B.notSynchronized
  subst hsz
  have hD := hD0.self (sz := s.heap.size)
  generalize hAe : va_A [(mh, .inr (7, [.ref ca, .ref la, .ref sg, .ref pl, .ref rw, .ref tw, .ref ga, .ref pa, .int ni, .int li, .int mi, .int mv, .int nx, .int al, .int nc, .int nl])), (pa, .inl (cI, 6, .inl pt))] s.heap.size = A at hD hG
  have hA : ∀ q : Nat, s.heap.size ≤ q → A q := fun q h => by rw [← hAe]; exact Or.inr h
  have hS : va_S A s.heap s.heap [] := va_S.rf
  have hP : va_P (dC, dI) vwCl [(mh, .inr (7, [.ref ca, .ref la, .ref sg, .ref pl, .ref rw, .ref tw, .ref ga, .ref pa, .int ni, .int li, .int mi, .int mv, .int nx, .int al, .int nc, .int nl])), (pa, .inl (cI, 6, .inl pt))] s.heap := hP
  have hl := lv_entry ([.ref mh, .int p1]) (n := 4) (Nat.le_of_ble_eq_true rfl)
  rw [lg_entry_eq]
  generalize (lg_sl ([.ref mh, .int p1]) ++ List.replicate (4 - (lg_sl ([.ref mh, .int p1])).length) Slot.unset).toArray = ls at hl ⊢
  have hl : lv_has ls 4 [(0, .ref mh), (1, .int p1)] := hl
  refine lv_iload_n hx hb dX7_share_0 rfl (lv_at hl 1 rfl) ?_
  refine zxSv (px := fun k9 => (xX7_needMask p1) = k9 ∧ k9 ≠ 0) (vx_runS (As := [.int p1]) (rest := []) ⟨hx, hb, hml, hown, hts⟩ (c_X7_needMask l hfl dC dI cI cJ s.heap.size p1 ) (va_cwS 1 hts gX7_share_X7_needMask rfl rfl rfl (by decide +kernel) ⟨Nat.le_of_ble_eq_true rfl, Nat.le_of_ble_eq_true rfl⟩) (zpS hK hP hD hS hA hG [] (by decide) rfl) rfl rfl hl.1 rfl (lv_room (Nat.le_of_ble_eq_true rfl)) dX7_share_1 ⟨Nat.le_of_ble_eq_true rfl, Nat.le_of_ble_eq_true rfl⟩) (fun q h => h) hS hA (fun k9 ce q9 H1 locs1 hw_1 hz1 hk1 hS1 hlo hce hcv hcl => ?_) (fun hw_1 => ?_)
  · exact vx_out (mc := 1) (ms := 6) (fun x h => (hto x h).elim) hlocks hce hcv hcl (fun t ht hW => ⟨k9, ⟨(by have hn9 := hw_1.2; rw [← hw_1.1] at hn9; rw [← hw_1.1]; unfold xX7_share; rw [if_neg hn9]), hw_1.2⟩, rfl, (by rw [ht]; exact hz1), (fun q h9 _ => by rw [ht]; exact hk1 q h9)⟩) (by rw [hlo rfl]; exact fun z h => absurd h List.not_mem_nil) (by decide) (by decide)
  · refine lv_iconst (v := 0) hx hb dX7_share_4 (by decide) ?_
    refine lv_istore_n (lv' := [(2, .int (0 : Int32)), (0, .ref mh), (1, .int p1)]) hx hb dX7_share_5 rfl hl (by decide) rfl (fun ls hl => ?_)
    refine lv_iconst (v := 0) hx hb dX7_share_6 (by decide) ?_
    refine lv_istore_n (lv' := [(3, .int (0 : Int32)), (2, .int (0 : Int32)), (0, .ref mh), (1, .int p1)]) hx hb dX7_share_7 rfl hl (by decide) rfl (fun ls hl => ?_)
    refine zNm (fun R9 Q9 hR9 hQ9 => ?_)
    have L8 : ∀ (n8 : Nat) (su1 : Int32) (i1 : Int32), 0 ≤ i1.toInt → ((6 : Int32)).toInt - i1.toInt < n8 ∧ 0 < n8 → 0 = xX7_share ni li mi mv nx al nc nl pt p1 → lX7_share_8_r ni li mi mv nx al nc nl pt p1 n8 su1 i1 = rX7_share ni li mi mv nx al nc nl pt p1 → ∀ (ls : Array Slot), lv_has ls 4 [(3, .int i1), (2, .int su1), (0, .ref mh), (1, .int p1)] → W p l e R9 s m ([.ref mh, .int p1] : List Value).toArray below meth c s.heap [] 0 0 Q9 (F0 m 8 ls []) := by
      subst hR9; subst hQ9
      intro n8
      induction n8 with
      | zero => intro su1 i1 hi0 hi2; exact absurd hi2.2 (by decide)
      | succ n8 ih8 =>
        intro su1 i1 hi0 hi2 hres8_x hres8_r ls hl
        refine lv_iload_n hx hb dX7_share_8 rfl (lv_at hl 0 rfl) ?_
        refine lv_bipush (v := 6) hx hb dX7_share_9 (by decide) ?_
        refine zNm (fun R9 Q9 hR9 hQ9 => ?_)
        have J29 : qX7_share_29_x ni li mi mv nx al nc nl pt p1 su1 i1 = xX7_share ni li mi mv nx al nc nl pt p1 → qX7_share_29_r ni li mi mv nx al nc nl pt p1 su1 i1 = rX7_share ni li mi mv nx al nc nl pt p1 → ∀ (ls : Array Slot), lv_has ls 4 [(3, .int i1), (2, .int su1), (0, .ref mh), (1, .int p1)] → W p l e R9 s m ([.ref mh, .int p1] : List Value).toArray below meth c s.heap [] 0 0 Q9 (F0 m 29 ls []) := by
          subst hR9; subst hQ9
          intro hj29_x hj29_r
          intro ls hl
          refine lv_iload_n hx hb dX7_share_29 rfl (lv_at hl 1 rfl) ?_
          refine lv_if_ne (tgt := 35) hx hb dX7_share_30 (by decide) (fun c_2 => ?_) (fun c_2 => ?_)
          · refine lv_aload_n hx hb dX7_share_35 rfl (lv_at hl 2 rfl) ?_
            refine va_get (D := (dC, dI)) (ci := 7) (v := .int al) (C := RX7) (T := TX7) (N := 16) hx hb hts iX7_share_X7 hown hK hP 0 rfl rfl 13 (by decide) (hts _ kX7_share_1) (fun _ h9 => h9) rfl dX7_share_36 ?_
            refine lv_i2d hx hb dX7_share_39 ?_
            refine lv_aload_n hx hb dX7_share_40 rfl (lv_at hl 2 rfl) ?_
            refine va_get (D := (dC, dI)) (ci := 7) (v := .ref pa) (C := RX7) (T := TX7) (N := 16) hx hb hts iX7_share_X7 hown hK hP 0 rfl rfl 7 (by decide) (hts _ kX7_share_2) (fun _ h9 => h9) rfl dX7_share_41 ?_
            refine lv_iload_n hx hb dX7_share_44 rfl (lv_at hl 3 rfl) ?_
            refine va_iald hx hb hK hP 1 0 rfl rfl (i := p1) (zM (by assumption)) dX7_share_45 ?_
            refine lv_i2d hx hb dX7_share_46 ?_
            refine lv_dmul hx hb dX7_share_47 (zfMulN _ _) ?_
            refine lv_iload_n hx hb dX7_share_48 rfl (lv_at hl 1 rfl) ?_
            refine lv_i2d hx hb dX7_share_49 ?_
            refine lv_ddiv hx hb dX7_share_50 (zfDivN _ _ _ c_2) ?_
            exact W.widen (k := 1) (n := 6) (by decide) (by decide) (vx_ret (W.dret (v := (FP.ddiv (FP.dmul (FP.i2d al) (FP.i2d (pt (p1).toNatClampNeg))) (FP.i2d su1))) hx hb hr (fun t ht hW => ⟨_, rfl, ⟨(by rw [← hj29_x]; unfold qX7_share_29_x; rfl), (by rw [← hj29_r]; unfold qX7_share_29_r; rw [if_neg c_2])⟩, ht⟩) (fun q hq => absurd hq List.not_mem_nil) dX7_share_51))
          · refine lv_dconst0 hx hb dX7_share_33 ?_
            exact W.widen (k := 1) (n := 6) (by decide) (by decide) (vx_ret (W.dret (v := FP.dconst0) hx hb hr (fun t ht hW => ⟨_, rfl, ⟨(by rw [← hj29_x]; unfold qX7_share_29_x; rfl), (by rw [← hj29_r]; unfold qX7_share_29_r; rw [if_pos c_2])⟩, ht⟩) (fun q hq => absurd hq List.not_mem_nil) dX7_share_34))
        subst hR9; subst hQ9
        refine lv_icmp_ge (tgt := 29) hx hb dX7_share_11 (by decide) (fun c_3 => ?_) (fun c_3 => ?_)
        · exact J29 (by rw [← hres8_x]; rfl) (by rw [← hres8_r]; rw [lX7_share_8_r]; rw [if_pos c_3]) _ (lv_sub hl [0, 1, 2, 3] rfl)
        · refine lv_iload_n hx hb dX7_share_14 rfl (lv_at hl 1 rfl) ?_
          refine lv_aload_n hx hb dX7_share_15 rfl (lv_at hl 2 rfl) ?_
          refine va_get (D := (dC, dI)) (ci := 7) (v := .ref pa) (C := RX7) (T := TX7) (N := 16) hx hb hts iX7_share_X7 hown hK hP 0 rfl rfl 7 (by decide) (hts _ kX7_share_2) (fun _ h9 => h9) rfl dX7_share_16 ?_
          refine lv_iload_n hx hb dX7_share_19 rfl (lv_at hl 0 rfl) ?_
          refine va_iald hx hb hK hP 1 0 rfl rfl (i := i1) (by first | assumption | exact zin_a (by assumption) (by assumption) (by assumption) | exact zin_c (by assumption) (by assumption) (by assumption) | exact zin_c (by assumption) (by assumption) (by decide) | exact zin_e (by assumption) (by assumption) (by decide) | exact zin_e (by assumption) (by assumption) (by assumption) | exact zin_f (by assumption) (by assumption) (by assumption)) dX7_share_20 ?_
          refine lv_iadd hx hb dX7_share_21 ?_
          refine lv_istore_n (lv' := [(2, .int (su1 + (pt (i1).toNatClampNeg))), (3, .int i1), (0, .ref mh), (1, .int p1)]) hx hb dX7_share_22 rfl hl (by decide) rfl (fun ls hl => ?_)
          refine lv_iinc (v := (i1 + 1)) (lv' := [(3, .int (i1 + 1)), (2, .int (su1 + (pt (i1).toNatClampNeg))), (0, .ref mh), (1, .int p1)]) hx hb dX7_share_23 hl (k := 1) rfl rfl (by decide) rfl (fun ls hl => ?_)
          refine lv_goto (tgt := 8) hx hb dX7_share_26 (by decide) ?_
          exact ih8 (su1 + (pt (i1).toNatClampNeg)) (i1 + 1) (by have h9 := zInc (x := i1) (y := (6 : Int32)) (by assumption); omega) (by have h9 := zInc (x := i1) (y := (6 : Int32)) (by assumption); have h8 := zGo (x := i1) (y := (6 : Int32)) (by assumption); omega) (by rw [← hres8_x]) (by rw [← hres8_r]; rw [lX7_share_8_r]; rw [if_neg c_3]) _ (lv_sub hl [0, 1, 2, 3] rfl)
    subst hR9; subst hQ9
    exact L8 7 (0 : Int32) (0 : Int32) (by decide) (by decide) (by unfold xX7_share; rw [if_pos hw_1]) (by unfold rX7_share; rfl) _ (lv_sub hl [0, 1, 2, 3] rfl)
theorem bxX7_share (ni : Int32) (li : Int32) (mi : Int32) (mv : Int32) (nx : Int32) (al : Int32) (nc : Int32) (nl : Int32) (pt : Nat → Int32) (p1 : Int32) : xX7_share ni li mi mv nx al nc nl pt p1 = 0 ∨ xX7_share ni li mi mv nx al nc nl pt p1 = 1 := by
  have h0 := bxX7_needMask p1
  unfold xX7_share
  repeat' split
  all_goals omega
