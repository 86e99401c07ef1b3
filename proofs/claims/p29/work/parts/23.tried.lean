/-! X6_caseNow -/
def rX6_caseNow (ki : Nat → Int32) (fi : Nat → Int32) (se : Nat → Int32) (th : Nat → Int32) (size : Int32) (on : Int32) (il : Int32) (ba : Int32) (kn : Nat → Int32) (ho : Nat → Int32) (p1 : Int32) : Int32 := (if (ki (p1).toNatClampNeg) = (0 : Int32) then (kn ((th (p1).toNatClampNeg)).toNatClampNeg) else (if (ki (p1).toNatClampNeg) = (1 : Int32) then ((ho ((th (p1).toNatClampNeg)).toNatClampNeg) + (1 : Int32)) else (0 : Int32)))
set_option maxRecDepth 20000 in
theorem iX6_caseNow_X6 : ∀ w ∈ u_ws RX6 TX6 4, w ∈ wsX6_caseNow := by decide +kernel
set_option maxRecDepth 20000 in
theorem kX6_caseNow_1 : Cond.fieldLink RX6 18 "MaskHall$TriedWay" "canvas" "LMaskHall$Canvas;" ∈ wsX6_caseNow := by decide +kernel
set_option maxRecDepth 20000 in
theorem iX6_caseNow_X0 : ∀ w ∈ u_ws RX0 TX0 5, w ∈ wsX6_caseNow := by decide +kernel
set_option maxRecDepth 20000 in
theorem kX6_caseNow_3 : Cond.fieldLink RX6 55 "MaskHall$Canvas" "things" "[I" ∈ wsX6_caseNow := by decide +kernel
set_option maxRecDepth 20000 in
theorem kX6_caseNow_4 : Cond.fieldLink RX6 59 "MaskHall$Canvas" "kinds" "[I" ∈ wsX6_caseNow := by decide +kernel
set_option maxRecDepth 20000 in
theorem kX6_caseNow_5 : Cond.fieldLink RX6 22 "MaskHall$TriedWay" "stage" "LMaskHall$Stage;" ∈ wsX6_caseNow := by decide +kernel
set_option maxRecDepth 20000 in
theorem iX6_caseNow_X5 : ∀ w ∈ u_ws RX5 TX5 4, w ∈ wsX6_caseNow := by decide +kernel
set_option maxRecDepth 20000 in
theorem kX6_caseNow_7 : Cond.fieldLink RX6 62 "MaskHall$Stage" "lore" "LMaskHall$Lore;" ∈ wsX6_caseNow := by decide +kernel
set_option maxRecDepth 20000 in
theorem iX6_caseNow_X2 : ∀ w ∈ u_ws RX2 TX2 2, w ∈ wsX6_caseNow := by decide +kernel
set_option maxRecDepth 20000 in
theorem kX6_caseNow_9 : Cond.fieldLink RX6 66 "MaskHall$Lore" "knowers" "[I" ∈ wsX6_caseNow := by decide +kernel
set_option maxRecDepth 20000 in
theorem kX6_caseNow_10 : Cond.fieldLink RX6 71 "MaskHall$Lore" "holders" "[I" ∈ wsX6_caseNow := by decide +kernel
set_option maxHeartbeats 780000 in
set_option maxRecDepth 100000 in
theorem c_X6_caseNow (l : Launch) (dC : Nat → ClassId) (dI : Nat → Nat → Nat) (cI cJ : ClassId) (tw ca ck cf cs ct sg lg kg hg re be : Nat) (sz : Nat) (ki : Nat → Int32) (fi : Nat → Int32) (se : Nat → Int32) (th : Nat → Int32) (size : Int32) (on : Int32) (il : Int32) (ba : Int32) (kn : Nat → Int32) (ho : Nat → Int32) (p1 : Int32) (hin1 : vp_in p1 12) (hTH : ∀ j : Nat, j < 12 → vp_in (th j) 4) : Met l yX6_caseNow wsX6_caseNow ({ frames := 0, cells := 0, slots := 0, locals := 0 }) (va_Pc [.ref tw, .int p1] (zI (dC, dI) [(cI, .int), (cJ, .long)] [(tw, .inr (6, [.ref ca, .ref sg, .ref re, .ref be])), (ca, .inr (0, [.ref ck, .ref cf, .ref cs, .ref ct, .int size])), (ck, .inl (cI, 12, .inl ki)), (cf, .inl (cI, 12, .inl fi)), (cs, .inl (cI, 12, .inl se)), (ct, .inl (cI, 12, .inl th)), (sg, .inr (5, [.ref lg, .int on, .int il, .int ba])), (lg, .inr (2, [.ref kg, .ref hg])), (kg, .inl (cI, 4, .inl kn)), (hg, .inl (cI, 4, .inl ho))] sz)) (vp_Si (fun r => r = rX6_caseNow ki fi se th size on il ba kn ho p1)) 0 0 (fun _ => False) := by
  refine Met.ofW (cc := cX6_caseNow) (maxL := 3) (ret := (some .int)) (by decide) rfl ?_
  intro p e s m args below meth c s₁ B hml hv
  obtain ⟨rfl, hsz, hP, hK, hD0, hG⟩ := hv
  have hx := B.exec
  have hb := B.bytes
  have hr := B.returns
  have hts := atoms_spec (ws := wsX6_caseNow) B.pre
  have hown : s.vm.findClass RX6 = some m.cls := findClass_of_methodNamed B.named
  have hlocks := B.notSynchronized
  subst hsz
  have hD := hD0.self (sz := s.heap.size)
  generalize hAe : va_A [(tw, .inr (6, [.ref ca, .ref sg, .ref re, .ref be])), (ca, .inr (0, [.ref ck, .ref cf, .ref cs, .ref ct, .int size])), (ck, .inl (cI, 12, .inl ki)), (cf, .inl (cI, 12, .inl fi)), (cs, .inl (cI, 12, .inl se)), (ct, .inl (cI, 12, .inl th)), (sg, .inr (5, [.ref lg, .int on, .int il, .int ba])), (lg, .inr (2, [.ref kg, .ref hg])), (kg, .inl (cI, 4, .inl kn)), (hg, .inl (cI, 4, .inl ho))] s.heap.size = A at hD hG
  have hA : ∀ q : Nat, s.heap.size ≤ q → A q := fun q h => by rw [← hAe]; exact Or.inr h
  have hS : va_S A s.heap s.heap [] := va_S.rf
  have hP : va_P (dC, dI) vwCl [(tw, .inr (6, [.ref ca, .ref sg, .ref re, .ref be])), (ca, .inr (0, [.ref ck, .ref cf, .ref cs, .ref ct, .int size])), (ck, .inl (cI, 12, .inl ki)), (cf, .inl (cI, 12, .inl fi)), (cs, .inl (cI, 12, .inl se)), (ct, .inl (cI, 12, .inl th)), (sg, .inr (5, [.ref lg, .int on, .int il, .int ba])), (lg, .inr (2, [.ref kg, .ref hg])), (kg, .inl (cI, 4, .inl kn)), (hg, .inl (cI, 4, .inl ho))] s.heap := hP
  have hl := lv_entry ([.ref tw, .int p1]) (n := 3) (Nat.le_of_ble_eq_true rfl)
  rw [lg_entry_eq]
  generalize (lg_sl ([.ref tw, .int p1]) ++ List.replicate (3 - (lg_sl ([.ref tw, .int p1])).length) Slot.unset).toArray = ls at hl ⊢
  have hl : lv_has ls 3 [(0, .ref tw), (1, .int p1)] := hl
  refine lv_aload_n hx hb dX6_caseNow_0 rfl (lv_at hl 0 rfl) ?_
  refine va_get (D := (dC, dI)) (ci := 6) (v := .ref ca) (C := RX6) (T := TX6) (N := 4) hx hb hts iX6_caseNow_X6 hown hK hP 0 rfl rfl 0 (by decide) (hts _ kX6_caseNow_1) (fun _ h9 => h9) rfl dX6_caseNow_1 ?_
  refine va_get (D := (dC, dI)) (ci := 0) (v := .ref ct) (C := RX0) (T := TX0) (N := 5) hx hb hts iX6_caseNow_X0 hown hK hP 1 rfl rfl 3 (by decide) (hts _ kX6_caseNow_3) (fun _ h9 => h9) rfl dX6_caseNow_4 ?_
  refine lv_iload_n hx hb dX6_caseNow_7 rfl (lv_at hl 1 rfl) ?_
  refine va_iald hx hb hK hP 5 0 rfl rfl (i := p1) hin1 dX6_caseNow_8 ?_
  refine lv_istore_n (lv' := [(2, .int (th (p1).toNatClampNeg)), (0, .ref tw), (1, .int p1)]) hx hb dX6_caseNow_9 rfl hl (by decide) rfl (fun ls hl => ?_)
  refine lv_aload_n hx hb dX6_caseNow_10 rfl (lv_at hl 1 rfl) ?_
  refine va_get (D := (dC, dI)) (ci := 6) (v := .ref ca) (C := RX6) (T := TX6) (N := 4) hx hb hts iX6_caseNow_X6 hown hK hP 0 rfl rfl 0 (by decide) (hts _ kX6_caseNow_1) (fun _ h9 => h9) rfl dX6_caseNow_11 ?_
  refine va_get (D := (dC, dI)) (ci := 0) (v := .ref ck) (C := RX0) (T := TX0) (N := 5) hx hb hts iX6_caseNow_X0 hown hK hP 1 rfl rfl 0 (by decide) (hts _ kX6_caseNow_4) (fun _ h9 => h9) rfl dX6_caseNow_14 ?_
  refine lv_iload_n hx hb dX6_caseNow_17 rfl (lv_at hl 2 rfl) ?_
  refine va_iald hx hb hK hP 2 0 rfl rfl (i := p1) hin1 dX6_caseNow_18 ?_
  by_cases c_1 : (ki (p1).toNatClampNeg) = (0 : Int32)
  · refine lv_lookup (off := 25) (tgt := 44) hx hb dX6_caseNow_19 (by decide) (by rw [c_1]; decide) (by decide) ?_
    refine lv_aload_n hx hb dX6_caseNow_44 rfl (lv_at hl 1 rfl) ?_
    refine va_get (D := (dC, dI)) (ci := 6) (v := .ref sg) (C := RX6) (T := TX6) (N := 4) hx hb hts iX6_caseNow_X6 hown hK hP 0 rfl rfl 1 (by decide) (hts _ kX6_caseNow_5) (fun _ h9 => h9) rfl dX6_caseNow_45 ?_
    refine va_get (D := (dC, dI)) (ci := 5) (v := .ref lg) (C := RX5) (T := TX5) (N := 4) hx hb hts iX6_caseNow_X5 hown hK hP 6 rfl rfl 0 (by decide) (hts _ kX6_caseNow_7) (fun _ h9 => h9) rfl dX6_caseNow_48 ?_
    refine va_get (D := (dC, dI)) (ci := 2) (v := .ref kg) (C := RX2) (T := TX2) (N := 2) hx hb hts iX6_caseNow_X2 hown hK hP 7 rfl rfl 0 (by decide) (hts _ kX6_caseNow_9) (fun _ h9 => h9) rfl dX6_caseNow_51 ?_
    refine lv_iload_n hx hb dX6_caseNow_54 rfl (lv_at hl 0 rfl) ?_
    refine va_iald hx hb hK hP 8 0 rfl rfl (i := (th (p1).toNatClampNeg)) (hTH _ (zin_lt hin1)) dX6_caseNow_55 ?_
    exact W.iret (v := (kn ((th (p1).toNatClampNeg)).toNatClampNeg)) hx hb hr (fun t ht hW => ⟨_, rfl, (by unfold rX6_caseNow; rw [if_pos c_1]), ht⟩) (fun q hq => absurd hq List.not_mem_nil) dX6_caseNow_56
  · by_cases c_2 : (ki (p1).toNatClampNeg) = (1 : Int32)
    · refine lv_lookup (off := 38) (tgt := 57) hx hb dX6_caseNow_19 (by decide) (by rw [c_2]; decide) (by decide) ?_
      refine lv_aload_n hx hb dX6_caseNow_57 rfl (lv_at hl 1 rfl) ?_
      refine va_get (D := (dC, dI)) (ci := 6) (v := .ref sg) (C := RX6) (T := TX6) (N := 4) hx hb hts iX6_caseNow_X6 hown hK hP 0 rfl rfl 1 (by decide) (hts _ kX6_caseNow_5) (fun _ h9 => h9) rfl dX6_caseNow_58 ?_
      refine va_get (D := (dC, dI)) (ci := 5) (v := .ref lg) (C := RX5) (T := TX5) (N := 4) hx hb hts iX6_caseNow_X5 hown hK hP 6 rfl rfl 0 (by decide) (hts _ kX6_caseNow_7) (fun _ h9 => h9) rfl dX6_caseNow_61 ?_
      refine va_get (D := (dC, dI)) (ci := 2) (v := .ref hg) (C := RX2) (T := TX2) (N := 2) hx hb hts iX6_caseNow_X2 hown hK hP 7 rfl rfl 1 (by decide) (hts _ kX6_caseNow_10) (fun _ h9 => h9) rfl dX6_caseNow_64 ?_
      refine lv_iload_n hx hb dX6_caseNow_67 rfl (lv_at hl 0 rfl) ?_
      refine va_iald hx hb hK hP 9 0 rfl rfl (i := (th (p1).toNatClampNeg)) (hTH _ (zin_lt hin1)) dX6_caseNow_68 ?_
      refine lv_iconst (v := 1) hx hb dX6_caseNow_69 (by decide) ?_
      refine lv_iadd hx hb dX6_caseNow_70 ?_
      exact W.iret (v := ((ho ((th (p1).toNatClampNeg)).toNatClampNeg) + (1 : Int32))) hx hb hr (fun t ht hW => ⟨_, rfl, (by unfold rX6_caseNow; rw [if_neg c_1, if_pos c_2]), ht⟩) (fun q hq => absurd hq List.not_mem_nil) dX6_caseNow_71
    · refine lv_lookup (off := 53) (tgt := 72) hx hb dX6_caseNow_19 (by decide) (by rw [lv_osw c_1 (by decide), lv_osw c_2 (by decide)]; rfl) (by decide) ?_
      refine lv_iconst (v := 0) hx hb dX6_caseNow_72 (by decide) ?_
      exact W.iret (v := (0 : Int32)) hx hb hr (fun t ht hW => ⟨_, rfl, (by unfold rX6_caseNow; rw [if_neg c_1, if_neg c_2]), ht⟩) (fun q hq => absurd hq List.not_mem_nil) dX6_caseNow_73

/-! X6_casesThatDo -/
def rX6_casesThatDo (ki : Nat → Int32) (fi : Nat → Int32) (se : Nat → Int32) (th : Nat → Int32) (size : Int32) (p1 : Int32) (p2 : Int32) : Int64 := (if (ki (p1).toNatClampNeg) = (2 : Int32) then (if (rX7_isIn p2 (fi (p1).toNatClampNeg)) = 0 then (-1 : Int64) else (0 : Int64)) else (if (ki (p1).toNatClampNeg) = (3 : Int32) then (if (rX7_isIn p2 (fi (p1).toNatClampNeg)) = 0 then (0 : Int64) else (-1 : Int64)) else (if (rX7_isIn p2 (fi (p1).toNatClampNeg)) = 0 then (0 : Int64) else (if (rX7_isIn p2 (se (p1).toNatClampNeg)) = 0 then (0 : Int64) else (if (ki (p1).toNatClampNeg) = 0 then ((zKT ((fi (p1).toNatClampNeg)).toNatClampNeg) &&& ((zKT ((se (p1).toNatClampNeg)).toNatClampNeg) ^^^ (-1 : Int64))) else (if (ki (p1).toNatClampNeg) = (1 : Int32) then ((1 : Int64) <<< ((((fi (p1).toNatClampNeg) + (1 : Int32))).toInt64 &&& 63)) else (-1 : Int64)))))))
set_option maxRecDepth 20000 in
theorem iX6_casesThatDo_X6 : ∀ w ∈ u_ws RX6 TX6 4, w ∈ wsX6_casesThatDo := by decide +kernel
set_option maxRecDepth 20000 in
theorem kX6_casesThatDo_1 : Cond.fieldLink RX6 18 "MaskHall$TriedWay" "canvas" "LMaskHall$Canvas;" ∈ wsX6_casesThatDo := by decide +kernel
set_option maxRecDepth 20000 in
theorem iX6_casesThatDo_X0 : ∀ w ∈ u_ws RX0 TX0 5, w ∈ wsX6_casesThatDo := by decide +kernel
set_option maxRecDepth 20000 in
theorem kX6_casesThatDo_3 : Cond.fieldLink RX6 78 "MaskHall$Canvas" "firsts" "[I" ∈ wsX6_casesThatDo := by decide +kernel
set_option maxRecDepth 20000 in
theorem kX6_casesThatDo_4 : Cond.fieldLink RX6 81 "MaskHall$Canvas" "seconds" "[I" ∈ wsX6_casesThatDo := by decide +kernel
set_option maxRecDepth 20000 in
theorem kX6_casesThatDo_5 : Cond.fieldLink RX6 59 "MaskHall$Canvas" "kinds" "[I" ∈ wsX6_casesThatDo := by decide +kernel
set_option maxRecDepth 20000 in
theorem kX6_casesThatDo_6 : Cond.initialized RX7 ∈ wsX6_casesThatDo := by decide +kernel
set_option maxRecDepth 20000 in
theorem kX6_casesThatDo_7 : Cond.static yX7_isIn ∈ wsX6_casesThatDo := by decide +kernel
set_option maxRecDepth 20000 in
theorem kX6_casesThatDo_8 : Cond.constantLong RX6 88 (-1) ∈ wsX6_casesThatDo := by decide +kernel
set_option maxRecDepth 20000 in
theorem kX6_casesThatDo_9 : Cond.fieldLink RX6 90 "MaskHall$TriedWay" "KNOWN_TO" "[J" ∈ wsX6_casesThatDo := by decide +kernel
set_option maxHeartbeats 1580000 in
set_option maxRecDepth 100000 in
theorem c_X6_casesThatDo (l : Launch) (dC : Nat → ClassId) (dI : Nat → Nat → Nat) (cI cJ : ClassId) (tw ca ck cf cs ct sg re be : Nat) (sz : Nat) (ki : Nat → Int32) (fi : Nat → Int32) (se : Nat → Int32) (th : Nat → Int32) (size : Int32) (p1 : Int32) (p2 : Int32) (hin1 : vp_in p1 12) (hFI : ∀ j : Nat, j < 12 → vp_in (fi j) 6) (hSE : ∀ j : Nat, j < 12 → vp_in (se j) 6) : Met l yX6_casesThatDo wsX6_casesThatDo ({ frames := 1, cells := 0, slots := 0, locals := 21 }) (va_Pc [.ref tw, .int p1, .int p2] (zI (dC, dI) [(cI, .int), (cJ, .long)] [(tw, .inr (6, [.ref ca, .ref sg, .ref re, .ref be])), (ca, .inr (0, [.ref ck, .ref cf, .ref cs, .ref ct, .int size])), (ck, .inl (cI, 12, .inl ki)), (cf, .inl (cI, 12, .inl fi)), (cs, .inl (cI, 12, .inl se)), (ct, .inl (cI, 12, .inl th))] sz)) (vp_Sl (fun r => r = rX6_casesThatDo ki fi se th size p1 p2)) 0 0 (fun _ => False) := by
  refine Met.ofW (cc := cX6_casesThatDo) (maxL := 6) (ret := (some .long)) (by decide) rfl ?_
  intro p e s m args below meth c s₁ B hml hv
  obtain ⟨rfl, hsz, hP, hK, hD0, hG⟩ := hv
  have hx := B.exec
  have hb := B.bytes
  have hr := B.returns
  have hts := atoms_spec (ws := wsX6_casesThatDo) B.pre
  have hown : s.vm.findClass RX6 = some m.cls := findClass_of_methodNamed B.named
  have hlocks := B.notSynchronized
  subst hsz
  have hD := hD0.self (sz := s.heap.size)
  generalize hAe : va_A [(tw, .inr (6, [.ref ca, .ref sg, .ref re, .ref be])), (ca, .inr (0, [.ref ck, .ref cf, .ref cs, .ref ct, .int size])), (ck, .inl (cI, 12, .inl ki)), (cf, .inl (cI, 12, .inl fi)), (cs, .inl (cI, 12, .inl se)), (ct, .inl (cI, 12, .inl th))] s.heap.size = A at hD hG
  have hA : ∀ q : Nat, s.heap.size ≤ q → A q := fun q h => by rw [← hAe]; exact Or.inr h
  have hS : va_S A s.heap s.heap [] := va_S.rf
  have hP : va_P (dC, dI) vwCl [(tw, .inr (6, [.ref ca, .ref sg, .ref re, .ref be])), (ca, .inr (0, [.ref ck, .ref cf, .ref cs, .ref ct, .int size])), (ck, .inl (cI, 12, .inl ki)), (cf, .inl (cI, 12, .inl fi)), (cs, .inl (cI, 12, .inl se)), (ct, .inl (cI, 12, .inl th))] s.heap := hP
  obtain ⟨tKN, hZkn, hTkn⟩ := hG.2.2
  have hl := lv_entry ([.ref tw, .int p1, .int p2]) (n := 6) (Nat.le_of_ble_eq_true rfl)
  rw [lg_entry_eq]
  generalize (lg_sl ([.ref tw, .int p1, .int p2]) ++ List.replicate (6 - (lg_sl ([.ref tw, .int p1, .int p2])).length) Slot.unset).toArray = ls at hl ⊢
  have hl : lv_has ls 6 [(0, .ref tw), (1, .int p1), (2, .int p2)] := hl
  refine lv_aload_n hx hb dX6_casesThatDo_0 rfl (lv_at hl 0 rfl) ?_
  refine va_get (D := (dC, dI)) (ci := 6) (v := .ref ca) (C := RX6) (T := TX6) (N := 4) hx hb hts iX6_casesThatDo_X6 hown hK hP 0 rfl rfl 0 (by decide) (hts _ kX6_casesThatDo_1) (fun _ h9 => h9) rfl dX6_casesThatDo_1 ?_
  refine va_get (D := (dC, dI)) (ci := 0) (v := .ref cf) (C := RX0) (T := TX0) (N := 5) hx hb hts iX6_casesThatDo_X0 hown hK hP 1 rfl rfl 1 (by decide) (hts _ kX6_casesThatDo_3) (fun _ h9 => h9) rfl dX6_casesThatDo_4 ?_
  refine lv_iload_n hx hb dX6_casesThatDo_7 rfl (lv_at hl 1 rfl) ?_
  refine va_iald hx hb hK hP 3 0 rfl rfl (i := p1) hin1 dX6_casesThatDo_8 ?_
  refine lv_istore_n (lv' := [(3, .int (fi (p1).toNatClampNeg)), (0, .ref tw), (1, .int p1), (2, .int p2)]) hx hb dX6_casesThatDo_9 rfl hl (by decide) rfl (fun ls hl => ?_)
  refine lv_aload_n hx hb dX6_casesThatDo_10 rfl (lv_at hl 1 rfl) ?_
  refine va_get (D := (dC, dI)) (ci := 6) (v := .ref ca) (C := RX6) (T := TX6) (N := 4) hx hb hts iX6_casesThatDo_X6 hown hK hP 0 rfl rfl 0 (by decide) (hts _ kX6_casesThatDo_1) (fun _ h9 => h9) rfl dX6_casesThatDo_11 ?_
  refine va_get (D := (dC, dI)) (ci := 0) (v := .ref cs) (C := RX0) (T := TX0) (N := 5) hx hb hts iX6_casesThatDo_X0 hown hK hP 1 rfl rfl 2 (by decide) (hts _ kX6_casesThatDo_4) (fun _ h9 => h9) rfl dX6_casesThatDo_14 ?_
  refine lv_iload_n hx hb dX6_casesThatDo_17 rfl (lv_at hl 2 rfl) ?_
  refine va_iald hx hb hK hP 4 0 rfl rfl (i := p1) hin1 dX6_casesThatDo_18 ?_
  refine lv_istore (lv' := [(4, .int (se (p1).toNatClampNeg)), (3, .int (fi (p1).toNatClampNeg)), (0, .ref tw), (1, .int p1), (2, .int p2)]) hx hb dX6_casesThatDo_19 hl (by decide) rfl (fun ls hl => ?_)
  refine lv_aload_n hx hb dX6_casesThatDo_21 rfl (lv_at hl 2 rfl) ?_
  refine va_get (D := (dC, dI)) (ci := 6) (v := .ref ca) (C := RX6) (T := TX6) (N := 4) hx hb hts iX6_casesThatDo_X6 hown hK hP 0 rfl rfl 0 (by decide) (hts _ kX6_casesThatDo_1) (fun _ h9 => h9) rfl dX6_casesThatDo_22 ?_
  refine va_get (D := (dC, dI)) (ci := 0) (v := .ref ck) (C := RX0) (T := TX0) (N := 5) hx hb hts iX6_casesThatDo_X0 hown hK hP 1 rfl rfl 0 (by decide) (hts _ kX6_casesThatDo_5) (fun _ h9 => h9) rfl dX6_casesThatDo_25 ?_
  refine lv_iload_n hx hb dX6_casesThatDo_28 rfl (lv_at hl 3 rfl) ?_
  refine va_iald hx hb hK hP 2 0 rfl rfl (i := p1) hin1 dX6_casesThatDo_29 ?_
  refine lv_istore (lv' := [(5, .int (ki (p1).toNatClampNeg)), (4, .int (se (p1).toNatClampNeg)), (3, .int (fi (p1).toNatClampNeg)), (0, .ref tw), (1, .int p1), (2, .int p2)]) hx hb dX6_casesThatDo_30 hl (by decide) rfl (fun ls hl => ?_)
  refine lv_iload hx hb dX6_casesThatDo_32 (lv_at hl 0 rfl) ?_
  refine lv_iconst (v := 2) hx hb dX6_casesThatDo_34 (by decide) ?_
  refine lv_icmp_ne (tgt := 54) hx hb dX6_casesThatDo_35 (by decide) (fun c_1 => ?_) (fun c_1 => ?_)
  · refine lv_iload hx hb dX6_casesThatDo_54 (lv_at hl 0 rfl) ?_
    refine lv_iconst (v := 3) hx hb dX6_casesThatDo_56 (by decide) ?_
    refine lv_icmp_ne (tgt := 76) hx hb dX6_casesThatDo_57 (by decide) (fun c_2 => ?_) (fun c_2 => ?_)
    · refine lv_iload_n hx hb dX6_casesThatDo_76 rfl (lv_at hl 5 rfl) ?_
      refine lv_iload_n hx hb dX6_casesThatDo_77 rfl (lv_at hl 2 rfl) ?_
      refine zcSi (va_runSN (As := [.int p2, .int (fi (p1).toNatClampNeg)]) (rest := []) ⟨hx, hb, hml, hown, hts⟩ (c_X7_isIn l dC dI cI cJ s.heap.size p2 (fi (p1).toNatClampNeg) ) ⟨va_cnB 2 hts gX6_casesThatDo_X7_isIn_n84 rfl rfl rfl (hG.1.1 _ (List.mem_of_getElem? (i := 6) rfl)) (hts _ kX6_casesThatDo_6) (by decide +kernel) ⟨Nat.le_of_ble_eq_true rfl, Nat.le_of_ble_eq_true rfl⟩, (hts _ kX6_casesThatDo_7), trivial⟩ (zpS hK hP hD hS hA hG [] (by decide) rfl) rfl rfl hl.1 rfl (lv_room (Nat.le_of_ble_eq_true rfl)) dX6_casesThatDo_78 ⟨Nat.le_of_ble_eq_true rfl, Nat.le_of_ble_eq_true rfl⟩) ?_
      refine lv_if_eq (tgt := 93) hx hb dX6_casesThatDo_81 (by decide) (fun c_3 => ?_) (fun c_3 => ?_)
      · refine lv_lconst (v := 0) hx hb dX6_casesThatDo_93 (by decide) ?_
        exact W.lret (v := (0 : Int64)) hx hb hr (fun t ht hW => ⟨_, rfl, (by unfold rX6_casesThatDo; rw [if_neg c_1, if_neg c_2, if_pos c_3]), ht⟩) (fun q hq => absurd hq List.not_mem_nil) dX6_casesThatDo_94
      · refine lv_iload_n hx hb dX6_casesThatDo_84 rfl (lv_at hl 5 rfl) ?_
        refine lv_iload hx hb dX6_casesThatDo_85 (lv_at hl 1 rfl) ?_
        refine zcSi (va_runSN (As := [.int p2, .int (se (p1).toNatClampNeg)]) (rest := []) ⟨hx, hb, hml, hown, hts⟩ (c_X7_isIn l dC dI cI cJ s.heap.size p2 (se (p1).toNatClampNeg) ) ⟨va_cnB 2 hts gX6_casesThatDo_X7_isIn_n84 rfl rfl rfl (hG.1.1 _ (List.mem_of_getElem? (i := 6) rfl)) (hts _ kX6_casesThatDo_6) (by decide +kernel) ⟨Nat.le_of_ble_eq_true rfl, Nat.le_of_ble_eq_true rfl⟩, (hts _ kX6_casesThatDo_7), trivial⟩ (zpS hK hP hD hS hA hG [] (by decide) rfl) rfl rfl hl.1 rfl (lv_room (Nat.le_of_ble_eq_true rfl)) dX6_casesThatDo_87 ⟨Nat.le_of_ble_eq_true rfl, Nat.le_of_ble_eq_true rfl⟩) ?_
        refine lv_if_ne (tgt := 95) hx hb dX6_casesThatDo_90 (by decide) (fun c_4 => ?_) (fun c_4 => ?_)
        · refine lv_iload hx hb dX6_casesThatDo_95 (lv_at hl 0 rfl) ?_
          refine lv_if_ne (tgt := 117) hx hb dX6_casesThatDo_97 (by decide) (fun c_5 => ?_) (fun c_5 => ?_)
          · refine lv_iload hx hb dX6_casesThatDo_117 (lv_at hl 0 rfl) ?_
            refine lv_iconst (v := 1) hx hb dX6_casesThatDo_119 (by decide) ?_
            refine lv_icmp_ne (tgt := 131) hx hb dX6_casesThatDo_120 (by decide) (fun c_6 => ?_) (fun c_6 => ?_)
            · refine lv_ldc2 hx hb hown (hts _ kX6_casesThatDo_8) dX6_casesThatDo_131 ?_
              exact W.lret (v := (-1 : Int64)) hx hb hr (fun t ht hW => ⟨_, rfl, (by unfold rX6_casesThatDo; rw [if_neg c_1, if_neg c_2, if_neg c_3, if_neg c_4, if_neg c_5, if_neg c_6]), ht⟩) (fun q hq => absurd hq List.not_mem_nil) dX6_casesThatDo_134
            · refine lv_lconst (v := 1) hx hb dX6_casesThatDo_123 (by decide) ?_
              refine lv_iload_n hx hb dX6_casesThatDo_124 rfl (lv_at hl 2 rfl) ?_
              refine lv_iconst (v := 1) hx hb dX6_casesThatDo_125 (by decide) ?_
              refine lv_iadd hx hb dX6_casesThatDo_126 ?_
              refine lv_lshl hx hb dX6_casesThatDo_127 rfl ?_
              refine lv_goto (tgt := 134) hx hb dX6_casesThatDo_128 (by decide) ?_
              exact W.lret (v := ((1 : Int64) <<< ((((fi (p1).toNatClampNeg) + (1 : Int32))).toInt64 &&& 63))) hx hb hr (fun t ht hW => ⟨_, rfl, (by unfold rX6_casesThatDo; rw [if_neg c_1, if_neg c_2, if_neg c_3, if_neg c_4, if_neg c_5, if_pos c_6]), ht⟩) (fun q hq => absurd hq List.not_mem_nil) dX6_casesThatDo_134
          · refine va_gets hx hb hZkn hS hown (hts _ kX6_casesThatDo_9) (fun _ h9 => h9) dX6_casesThatDo_100 ?_
            refine lv_iload_n hx hb dX6_casesThatDo_103 rfl (lv_at hl 2 rfl) ?_
            refine va_tl hx hb hTkn hS (i := (fi (p1).toNatClampNeg)) (hFI _ (zin_lt hin1)) rfl dX6_casesThatDo_104 ?_
            refine va_gets hx hb hZkn hS hown (hts _ kX6_casesThatDo_9) (fun _ h9 => h9) dX6_casesThatDo_105 ?_
            refine lv_iload hx hb dX6_casesThatDo_108 (lv_at hl 1 rfl) ?_
            refine va_tl hx hb hTkn hS (i := (se (p1).toNatClampNeg)) (hSE _ (zin_lt hin1)) rfl dX6_casesThatDo_110 ?_
            refine lv_ldc2 hx hb hown (hts _ kX6_casesThatDo_8) dX6_casesThatDo_111 ?_
            refine lv_lxor hx hb dX6_casesThatDo_114 ?_
            refine lv_land hx hb dX6_casesThatDo_115 ?_
            exact W.lret (v := ((zKT ((fi (p1).toNatClampNeg)).toNatClampNeg) &&& ((zKT ((se (p1).toNatClampNeg)).toNatClampNeg) ^^^ (-1 : Int64)))) hx hb hr (fun t ht hW => ⟨_, rfl, (by unfold rX6_casesThatDo; rw [if_neg c_1, if_neg c_2, if_neg c_3, if_neg c_4, if_pos c_5]), ht⟩) (fun q hq => absurd hq List.not_mem_nil) dX6_casesThatDo_116
        · refine lv_lconst (v := 0) hx hb dX6_casesThatDo_93 (by decide) ?_
          exact W.lret (v := (0 : Int64)) hx hb hr (fun t ht hW => ⟨_, rfl, (by unfold rX6_casesThatDo; rw [if_neg c_1, if_neg c_2, if_neg c_3, if_pos c_4]), ht⟩) (fun q hq => absurd hq List.not_mem_nil) dX6_casesThatDo_94
    · refine lv_iload_n hx hb dX6_casesThatDo_60 rfl (lv_at hl 5 rfl) ?_
      refine lv_iload_n hx hb dX6_casesThatDo_61 rfl (lv_at hl 2 rfl) ?_
      refine zcSi (va_runSN (As := [.int p2, .int (fi (p1).toNatClampNeg)]) (rest := []) ⟨hx, hb, hml, hown, hts⟩ (c_X7_isIn l dC dI cI cJ s.heap.size p2 (fi (p1).toNatClampNeg) ) ⟨va_cnB 2 hts gX6_casesThatDo_X7_isIn_n84 rfl rfl rfl (hG.1.1 _ (List.mem_of_getElem? (i := 6) rfl)) (hts _ kX6_casesThatDo_6) (by decide +kernel) ⟨Nat.le_of_ble_eq_true rfl, Nat.le_of_ble_eq_true rfl⟩, (hts _ kX6_casesThatDo_7), trivial⟩ (zpS hK hP hD hS hA hG [] (by decide) rfl) rfl rfl hl.1 rfl (lv_room (Nat.le_of_ble_eq_true rfl)) dX6_casesThatDo_62 ⟨Nat.le_of_ble_eq_true rfl, Nat.le_of_ble_eq_true rfl⟩) ?_
      refine lv_if_eq (tgt := 74) hx hb dX6_casesThatDo_65 (by decide) (fun c_7 => ?_) (fun c_7 => ?_)
      · refine lv_lconst (v := 0) hx hb dX6_casesThatDo_74 (by decide) ?_
        exact W.lret (v := (0 : Int64)) hx hb hr (fun t ht hW => ⟨_, rfl, (by unfold rX6_casesThatDo; rw [if_neg c_1, if_pos c_2, if_pos c_7]), ht⟩) (fun q hq => absurd hq List.not_mem_nil) dX6_casesThatDo_75
      · refine lv_ldc2 hx hb hown (hts _ kX6_casesThatDo_8) dX6_casesThatDo_68 ?_
        refine lv_goto (tgt := 75) hx hb dX6_casesThatDo_71 (by decide) ?_
        exact W.lret (v := (-1 : Int64)) hx hb hr (fun t ht hW => ⟨_, rfl, (by unfold rX6_casesThatDo; rw [if_neg c_1, if_pos c_2, if_neg c_7]), ht⟩) (fun q hq => absurd hq List.not_mem_nil) dX6_casesThatDo_75
  · refine lv_iload_n hx hb dX6_casesThatDo_38 rfl (lv_at hl 5 rfl) ?_
    refine lv_iload_n hx hb dX6_casesThatDo_39 rfl (lv_at hl 2 rfl) ?_
    refine zcSi (va_runSN (As := [.int p2, .int (fi (p1).toNatClampNeg)]) (rest := []) ⟨hx, hb, hml, hown, hts⟩ (c_X7_isIn l dC dI cI cJ s.heap.size p2 (fi (p1).toNatClampNeg) ) ⟨va_cnB 2 hts gX6_casesThatDo_X7_isIn_n84 rfl rfl rfl (hG.1.1 _ (List.mem_of_getElem? (i := 6) rfl)) (hts _ kX6_casesThatDo_6) (by decide +kernel) ⟨Nat.le_of_ble_eq_true rfl, Nat.le_of_ble_eq_true rfl⟩, (hts _ kX6_casesThatDo_7), trivial⟩ (zpS hK hP hD hS hA hG [] (by decide) rfl) rfl rfl hl.1 rfl (lv_room (Nat.le_of_ble_eq_true rfl)) dX6_casesThatDo_40 ⟨Nat.le_of_ble_eq_true rfl, Nat.le_of_ble_eq_true rfl⟩) ?_
    refine lv_if_eq (tgt := 50) hx hb dX6_casesThatDo_43 (by decide) (fun c_8 => ?_) (fun c_8 => ?_)
    · refine lv_ldc2 hx hb hown (hts _ kX6_casesThatDo_8) dX6_casesThatDo_50 ?_
      exact W.lret (v := (-1 : Int64)) hx hb hr (fun t ht hW => ⟨_, rfl, (by unfold rX6_casesThatDo; rw [if_pos c_1, if_pos c_8]), ht⟩) (fun q hq => absurd hq List.not_mem_nil) dX6_casesThatDo_53
    · refine lv_lconst (v := 0) hx hb dX6_casesThatDo_46 (by decide) ?_
      refine lv_goto (tgt := 53) hx hb dX6_casesThatDo_47 (by decide) ?_
      exact W.lret (v := (0 : Int64)) hx hb hr (fun t ht hW => ⟨_, rfl, (by unfold rX6_casesThatDo; rw [if_pos c_1, if_neg c_8]), ht⟩) (fun q hq => absurd hq List.not_mem_nil) dX6_casesThatDo_53

/-! X6_isInReach -/
def lX6_isInReach_2_r (fr : Nat → Int64) (fb : Nat → Int64) (ki : Nat → Int32) (fi : Nat → Int32) (se : Nat → Int32) (th : Nat → Int32) (size : Int32) (p1 : Int32) : Nat → (Int32) → (Int32)
  | 0, _ => 0
  | n2 + 1, i => (if (64 : Int32) ≤ i then (0 : Int32) else (if (lg_cmp (fr (i).toNatClampNeg) (0 : Int64)) = 0 then (lX6_isInReach_2_r fr fb ki fi se th size p1 n2 (i + 1)) else (if (lg_cmp ((fr (i).toNatClampNeg) &&& (rX6_casesThatDo ki fi se th size p1 i)) (0 : Int64)) = 0 then (lX6_isInReach_2_r fr fb ki fi se th size p1 n2 (i + 1)) else (1 : Int32))))
def rX6_isInReach (fr : Nat → Int64) (fb : Nat → Int64) (ki : Nat → Int32) (fi : Nat → Int32) (se : Nat → Int32) (th : Nat → Int32) (size : Int32) (p1 : Int32) : Int32 := (lX6_isInReach_2_r fr fb ki fi se th size p1 65 (0 : Int32))
set_option maxRecDepth 20000 in
theorem iX6_isInReach_X6 : ∀ w ∈ u_ws RX6 TX6 4, w ∈ wsX6_isInReach := by decide +kernel
set_option maxRecDepth 20000 in
theorem kX6_isInReach_1 : Cond.fieldLink RX6 9 "MaskHall$TriedWay" "reached" "[J" ∈ wsX6_isInReach := by decide +kernel
set_option maxHeartbeats 820000 in
set_option maxRecDepth 100000 in
theorem c_X6_isInReach (l : Launch) (dC : Nat → ClassId) (dI : Nat → Nat → Nat) (cI cJ : ClassId) (tw re be ca ck cf cs ct sg : Nat) (sz : Nat) (fr : Nat → Int64) (fb : Nat → Int64) (ki : Nat → Int32) (fi : Nat → Int32) (se : Nat → Int32) (th : Nat → Int32) (size : Int32) (p1 : Int32) (hin1 : vp_in p1 12) (hFI : ∀ j : Nat, j < 12 → vp_in (fi j) 6) (hSE : ∀ j : Nat, j < 12 → vp_in (se j) 6) : Met l yX6_isInReach wsX6_isInReach ({ frames := 2, cells := 0, slots := 0, locals := 46 }) (va_Pc [.ref tw, .int p1] (zI (dC, dI) [(cI, .int), (cJ, .long)] [(tw, .inr (6, [.ref ca, .ref sg, .ref re, .ref be])), (re, .inl (cJ, 64, .inr (.inl fr))), (be, .inl (cJ, 64, .inr (.inl fb))), (ca, .inr (0, [.ref ck, .ref cf, .ref cs, .ref ct, .int size])), (ck, .inl (cI, 12, .inl ki)), (cf, .inl (cI, 12, .inl fi)), (cs, .inl (cI, 12, .inl se)), (ct, .inl (cI, 12, .inl th))] sz)) (vp_Si (fun r => r = rX6_isInReach fr fb ki fi se th size p1)) 0 0 (fun _ => False) := by
  refine Met.ofW (cc := cX6_isInReach) (maxL := 3) (ret := (some .boolean)) (by decide) rfl ?_
  intro p e s m args below meth c s₁ B hml hv
  obtain ⟨rfl, hsz, hP, hK, hD0, hG⟩ := hv
  have hx := B.exec
  have hb := B.bytes
  have hr := B.returns
  have hts := atoms_spec (ws := wsX6_isInReach) B.pre
  have hown : s.vm.findClass RX6 = some m.cls := findClass_of_methodNamed B.named
  have hlocks := B.notSynchronized
  subst hsz
  have hD := hD0.self (sz := s.heap.size)
  generalize hAe : va_A [(tw, .inr (6, [.ref ca, .ref sg, .ref re, .ref be])), (re, .inl (cJ, 64, .inr (.inl fr))), (be, .inl (cJ, 64, .inr (.inl fb))), (ca, .inr (0, [.ref ck, .ref cf, .ref cs, .ref ct, .int size])), (ck, .inl (cI, 12, .inl ki)), (cf, .inl (cI, 12, .inl fi)), (cs, .inl (cI, 12, .inl se)), (ct, .inl (cI, 12, .inl th))] s.heap.size = A at hD hG
  have hA : ∀ q : Nat, s.heap.size ≤ q → A q := fun q h => by rw [← hAe]; exact Or.inr h
  have hS : va_S A s.heap s.heap [] := va_S.rf
  have hP : va_P (dC, dI) vwCl [(tw, .inr (6, [.ref ca, .ref sg, .ref re, .ref be])), (re, .inl (cJ, 64, .inr (.inl fr))), (be, .inl (cJ, 64, .inr (.inl fb))), (ca, .inr (0, [.ref ck, .ref cf, .ref cs, .ref ct, .int size])), (ck, .inl (cI, 12, .inl ki)), (cf, .inl (cI, 12, .inl fi)), (cs, .inl (cI, 12, .inl se)), (ct, .inl (cI, 12, .inl th))] s.heap := hP
  have hl := lv_entry ([.ref tw, .int p1]) (n := 3) (Nat.le_of_ble_eq_true rfl)
  rw [lg_entry_eq]
  generalize (lg_sl ([.ref tw, .int p1]) ++ List.replicate (3 - (lg_sl ([.ref tw, .int p1])).length) Slot.unset).toArray = ls at hl ⊢
  have hl : lv_has ls 3 [(0, .ref tw), (1, .int p1)] := hl
  refine lv_iconst (v := 0) hx hb dX6_isInReach_0 (by decide) ?_
  refine lv_istore_n (lv' := [(2, .int (0 : Int32)), (0, .ref tw), (1, .int p1)]) hx hb dX6_isInReach_1 rfl hl (by decide) rfl (fun ls hl => ?_)
  refine zNm (fun R9 Q9 hR9 hQ9 => ?_)
  have L2 : ∀ (n2 : Nat) (i : Int32), 0 ≤ i.toInt → ((64 : Int32)).toInt - i.toInt < n2 ∧ 0 < n2 → lX6_isInReach_2_r fr fb ki fi se th size p1 n2 i = rX6_isInReach fr fb ki fi se th size p1 → ∀ (ls : Array Slot), lv_has ls 3 [(2, .int i), (0, .ref tw), (1, .int p1)] → W p l e R9 s m ([.ref tw, .int p1] : List Value).toArray below meth c s.heap [] 0 0 Q9 (F0 m 2 ls []) := by
    subst hR9; subst hQ9
    intro n2
    induction n2 with
    | zero => intro i hi0 hi2; exact absurd hi2.2 (by decide)
    | succ n2 ih2 =>
      intro i hi0 hi2 hres2_r ls hl
      refine lv_iload_n hx hb dX6_isInReach_2 rfl (lv_at hl 0 rfl) ?_
      refine lv_bipush (v := 64) hx hb dX6_isInReach_3 (by decide) ?_
      refine lv_icmp_ge (tgt := 45) hx hb dX6_isInReach_5 (by decide) (fun c_1 => ?_) (fun c_1 => ?_)
      · refine lv_iconst (v := 0) hx hb dX6_isInReach_45 (by decide) ?_
        exact W.zret (v := (0 : Int32)) hx hb hr (zNar (Or.inl rfl)) (fun t ht hW => ⟨_, rfl, (by rw [← hres2_r]; rw [lX6_isInReach_2_r]; rw [if_pos c_1]), ht⟩) (fun q hq => absurd hq List.not_mem_nil) dX6_isInReach_46
      · refine lv_aload_n hx hb dX6_isInReach_8 rfl (lv_at hl 1 rfl) ?_
        refine va_get (D := (dC, dI)) (ci := 6) (v := .ref re) (C := RX6) (T := TX6) (N := 4) hx hb hts iX6_isInReach_X6 hown hK hP 0 rfl rfl 2 (by decide) (hts _ kX6_isInReach_1) (fun _ h9 => h9) rfl dX6_isInReach_9 ?_
        refine lv_iload_n hx hb dX6_isInReach_12 rfl (lv_at hl 0 rfl) ?_
        refine va_lald hx hb hK hP 1 1 rfl rfl (i := i) (by first | assumption | exact zin_a (by assumption) (by assumption) (by assumption) | exact zin_c (by assumption) (by assumption) (by assumption) | exact zin_c (by assumption) (by assumption) (by decide) | exact zin_e (by assumption) (by assumption) (by decide) | exact zin_e (by assumption) (by assumption) (by assumption) | exact zin_f (by assumption) (by assumption) (by assumption)) dX6_isInReach_13 ?_
        refine lv_lconst (v := 0) hx hb dX6_isInReach_14 (by decide) ?_
        refine W.lcmp hx hb dX6_isInReach_15 ?_
        refine lv_if_eq (tgt := 39) hx hb dX6_isInReach_16 (by decide) (fun c_2 => ?_) (fun c_2 => ?_)
        · refine lv_iinc (v := (i + 1)) (lv' := [(2, .int (i + 1)), (0, .ref tw), (1, .int p1)]) hx hb dX6_isInReach_39 hl (k := 0) rfl rfl (by decide) rfl (fun ls hl => ?_)
          refine lv_goto (tgt := 2) hx hb dX6_isInReach_42 (by decide) ?_
          exact ih2 (i + 1) (by have h9 := zInc (x := i) (y := (64 : Int32)) (by assumption); omega) (by have h9 := zInc (x := i) (y := (64 : Int32)) (by assumption); have h8 := zGo (x := i) (y := (64 : Int32)) (by assumption); omega) (by rw [← hres2_r]; rw [lX6_isInReach_2_r]; rw [if_neg c_1, if_pos c_2]) _ (lv_sub hl [0, 1, 2] rfl)
        · refine lv_aload_n hx hb dX6_isInReach_19 rfl (lv_at hl 1 rfl) ?_
          refine va_get (D := (dC, dI)) (ci := 6) (v := .ref re) (C := RX6) (T := TX6) (N := 4) hx hb hts iX6_isInReach_X6 hown hK hP 0 rfl rfl 2 (by decide) (hts _ kX6_isInReach_1) (fun _ h9 => h9) rfl dX6_isInReach_20 ?_
          refine lv_iload_n hx hb dX6_isInReach_23 rfl (lv_at hl 0 rfl) ?_
          refine va_lald hx hb hK hP 1 1 rfl rfl (i := i) (by first | assumption | exact zin_a (by assumption) (by assumption) (by assumption) | exact zin_c (by assumption) (by assumption) (by assumption) | exact zin_c (by assumption) (by assumption) (by decide) | exact zin_e (by assumption) (by assumption) (by decide) | exact zin_e (by assumption) (by assumption) (by assumption) | exact zin_f (by assumption) (by assumption) (by assumption)) dX6_isInReach_24 ?_
          refine lv_aload_n hx hb dX6_isInReach_25 rfl (lv_at hl 1 rfl) ?_
          refine lv_iload_n hx hb dX6_isInReach_26 rfl (lv_at hl 2 rfl) ?_
          refine lv_iload_n hx hb dX6_isInReach_27 rfl (lv_at hl 0 rfl) ?_
          refine zcSl (va_runV (As := [.int p1, .int i]) (rest := [.long (fr (i).toNatClampNeg)]) ⟨hx, hb, hml, hown, hts⟩ (c_X6_casesThatDo l dC dI cI cJ tw ca ck cf cs ct sg re be s.heap.size ki fi se th size p1 i (by assumption) (by assumption) (by assumption)) (cwV 2 hts gX6_isInReach_X6_casesThatDo rfl rfl rfl (by decide +kernel) ⟨Nat.le_of_ble_eq_true rfl, Nat.le_of_ble_eq_true rfl⟩) (zpV hK hP hD hS hA hG [0, 3, 4, 5, 6, 7] (by decide) rfl 6 0 rfl rfl) rfl rfl hl.1 rfl (lv_room (Nat.le_of_ble_eq_true rfl)) dX6_isInReach_28 ⟨Nat.le_of_ble_eq_true rfl, Nat.le_of_ble_eq_true rfl⟩) ?_
          refine lv_land hx hb dX6_isInReach_31 ?_
          refine lv_lconst (v := 0) hx hb dX6_isInReach_32 (by decide) ?_
          refine W.lcmp hx hb dX6_isInReach_33 ?_
          refine lv_if_eq (tgt := 39) hx hb dX6_isInReach_34 (by decide) (fun c_3 => ?_) (fun c_3 => ?_)
          · refine lv_iinc (v := (i + 1)) (lv' := [(2, .int (i + 1)), (0, .ref tw), (1, .int p1)]) hx hb dX6_isInReach_39 hl (k := 0) rfl rfl (by decide) rfl (fun ls hl => ?_)
            refine lv_goto (tgt := 2) hx hb dX6_isInReach_42 (by decide) ?_
            exact ih2 (i + 1) (by have h9 := zInc (x := i) (y := (64 : Int32)) (by assumption); omega) (by have h9 := zInc (x := i) (y := (64 : Int32)) (by assumption); have h8 := zGo (x := i) (y := (64 : Int32)) (by assumption); omega) (by rw [← hres2_r]; rw [lX6_isInReach_2_r]; rw [if_neg c_1, if_neg c_2, if_pos c_3]) _ (lv_sub hl [0, 1, 2] rfl)
          · refine lv_iconst (v := 1) hx hb dX6_isInReach_37 (by decide) ?_
            exact W.zret (v := (1 : Int32)) hx hb hr (zNar (Or.inr rfl)) (fun t ht hW => ⟨_, rfl, (by rw [← hres2_r]; rw [lX6_isInReach_2_r]; rw [if_neg c_1, if_neg c_2, if_neg c_3]), ht⟩) (fun q hq => absurd hq List.not_mem_nil) dX6_isInReach_38
  subst hR9; subst hQ9
  exact L2 65 (0 : Int32) (by decide) (by decide) (by unfold rX6_isInReach; rfl) _ (lv_sub hl [0, 1, 2] rfl)
theorem blX6_isInReach_2_r (fr : Nat → Int64) (fb : Nat → Int64) (ki : Nat → Int32) (fi : Nat → Int32) (se : Nat → Int32) (th : Nat → Int32) (size : Int32) (p1 : Int32) : ∀ (n : Nat) y0, lX6_isInReach_2_r fr fb ki fi se th size p1 n y0 = 0 ∨ lX6_isInReach_2_r fr fb ki fi se th size p1 n y0 = 1 := by
  intro n
  induction n with
  | zero => intros; exact Or.inl rfl
  | succ n ih =>
    intros
    rw [lX6_isInReach_2_r]
    repeat' split
    all_goals first | exact Or.inl rfl | exact Or.inr rfl | apply ih
theorem brX6_isInReach (fr : Nat → Int64) (fb : Nat → Int64) (ki : Nat → Int32) (fi : Nat → Int32) (se : Nat → Int32) (th : Nat → Int32) (size : Int32) (p1 : Int32) : rX6_isInReach fr fb ki fi se th size p1 = 0 ∨ rX6_isInReach fr fb ki fi se th size p1 = 1 := by
  unfold rX6_isInReach
  repeat' split
  all_goals first | exact Or.inl rfl | exact Or.inr rfl | exact blX6_isInReach_2_r _ _ _ _ _ _ _ _ _ _

/-! X6_tryEntersAndExits -/
def jX6_tryEntersAndExits_41_0 (fr : Nat → Int64) (fb : Nat → Int64) (on : Int32) (il : Int32) (ba : Int32) (p1 : Int32) (fr1 : Nat → Int64) (i : Int32) : (Nat → Int64) := (if (rX7_isIn il i) = 0 then (vp_updL fr1 ((p1 ^^^ ((1 : Int32) <<< (i &&& 31)))).toNatClampNeg ((fr1 ((p1 ^^^ ((1 : Int32) <<< (i &&& 31)))).toNatClampNeg) ||| (fb (p1).toNatClampNeg))) else fr1)
def lX6_tryEntersAndExits_2_fr (fr : Nat → Int64) (fb : Nat → Int64) (on : Int32) (il : Int32) (ba : Int32) (p1 : Int32) : Nat → (Nat → Int64) → (Int32) → (Nat → Int64)
  | 0, _, _ => fun _ => 0
  | n2 + 1, fr1, i => (if (6 : Int32) ≤ i then fr1 else (lX6_tryEntersAndExits_2_fr fr fb on il ba p1 n2 (jX6_tryEntersAndExits_41_0 fr fb on il ba p1 fr1 i) (i + 1)))
def oX6_tryEntersAndExits_fr (fr : Nat → Int64) (fb : Nat → Int64) (on : Int32) (il : Int32) (ba : Int32) (p1 : Int32) : Nat → Int64 := (lX6_tryEntersAndExits_2_fr fr fb on il ba p1 7 fr (0 : Int32))
set_option maxRecDepth 20000 in
theorem iX6_tryEntersAndExits_X6 : ∀ w ∈ u_ws RX6 TX6 4, w ∈ wsX6_tryEntersAndExits := by decide +kernel
set_option maxRecDepth 20000 in
theorem kX6_tryEntersAndExits_1 : Cond.fieldLink RX6 22 "MaskHall$TriedWay" "stage" "LMaskHall$Stage;" ∈ wsX6_tryEntersAndExits := by decide +kernel
set_option maxRecDepth 20000 in
theorem iX6_tryEntersAndExits_X5 : ∀ w ∈ u_ws RX5 TX5 4, w ∈ wsX6_tryEntersAndExits := by decide +kernel
set_option maxRecDepth 20000 in
theorem kX6_tryEntersAndExits_3 : Cond.fieldLink RX6 113 "MaskHall$Stage" "illMasks" "I" ∈ wsX6_tryEntersAndExits := by decide +kernel
set_option maxRecDepth 20000 in
theorem kX6_tryEntersAndExits_4 : Cond.initialized RX7 ∈ wsX6_tryEntersAndExits := by decide +kernel
set_option maxRecDepth 20000 in
theorem kX6_tryEntersAndExits_5 : Cond.static yX7_isIn ∈ wsX6_tryEntersAndExits := by decide +kernel
set_option maxRecDepth 20000 in
theorem kX6_tryEntersAndExits_6 : Cond.fieldLink RX6 9 "MaskHall$TriedWay" "reached" "[J" ∈ wsX6_tryEntersAndExits := by decide +kernel
set_option maxRecDepth 20000 in
theorem kX6_tryEntersAndExits_7 : Cond.fieldLink RX6 15 "MaskHall$TriedWay" "before" "[J" ∈ wsX6_tryEntersAndExits := by decide +kernel
set_option maxHeartbeats 800000 in
set_option maxRecDepth 100000 in
theorem c_X6_tryEntersAndExits (l : Launch) (dC : Nat → ClassId) (dI : Nat → Nat → Nat) (cI cJ : ClassId) (tw re be sg ca lg : Nat) (sz : Nat) (fr : Nat → Int64) (fb : Nat → Int64) (on : Int32) (il : Int32) (ba : Int32) (p1 : Int32) (hin1 : vp_in p1 64) : Met l yX6_tryEntersAndExits wsX6_tryEntersAndExits ({ frames := 1, cells := 0, slots := 0, locals := 21 }) (va_Pc [.ref tw, .int p1] (zI (dC, dI) [(cI, .int), (cJ, .long)] [(tw, .inr (6, [.ref ca, .ref sg, .ref re, .ref be])), (re, .inl (cJ, 64, .inr (.inl fr))), (be, .inl (cJ, 64, .inr (.inl fb))), (sg, .inr (5, [.ref lg, .int on, .int il, .int ba]))] sz)) (va_Qv (fun (u : (Nat → Int64)) => u = oX6_tryEntersAndExits_fr fr fb on il ba p1) (fun u => zO (dC, dI) [(cI, .int), (cJ, .long)] [(tw, .inr (6, [.ref ca, .ref sg, .ref re, .ref be])), (re, .inl (cJ, 64, .inr (.inl u))), (be, .inl (cJ, 64, .inr (.inl fb))), (sg, .inr (5, [.ref lg, .int on, .int il, .int ba]))] (va_A [(tw, .inr (6, [.ref ca, .ref sg, .ref re, .ref be])), (re, .inl (cJ, 64, .inr (.inl fr))), (be, .inl (cJ, 64, .inr (.inl fb))), (sg, .inr (5, [.ref lg, .int on, .int il, .int ba]))] sz)) (va_A [(tw, .inr (6, [.ref ca, .ref sg, .ref re, .ref be])), (re, .inl (cJ, 64, .inr (.inl fr))), (be, .inl (cJ, 64, .inr (.inl fb))), (sg, .inr (5, [.ref lg, .int on, .int il, .int ba]))] sz)) 0 0 (va_A [(tw, .inr (6, [.ref ca, .ref sg, .ref re, .ref be])), (re, .inl (cJ, 64, .inr (.inl fr))), (be, .inl (cJ, 64, .inr (.inl fb))), (sg, .inr (5, [.ref lg, .int on, .int il, .int ba]))] sz) := by
  refine Met.ofW (cc := cX6_tryEntersAndExits) (maxL := 3) (ret := none) (by decide) rfl ?_
  intro p e s m args below meth c s₁ B hml hv
  obtain ⟨rfl, hsz, hP, hK, hD0, hG⟩ := hv
  have hx := B.exec
  have hb := B.bytes
  have hr := B.returns
  have hts := atoms_spec (ws := wsX6_tryEntersAndExits) B.pre
  have hown : s.vm.findClass RX6 = some m.cls := findClass_of_methodNamed B.named
  have hlocks := B.notSynchronized
  subst hsz
  have hD := hD0.self (sz := s.heap.size)
  generalize hAe : va_A [(tw, .inr (6, [.ref ca, .ref sg, .ref re, .ref be])), (re, .inl (cJ, 64, .inr (.inl fr))), (be, .inl (cJ, 64, .inr (.inl fb))), (sg, .inr (5, [.ref lg, .int on, .int il, .int ba]))] s.heap.size = A at hD hG ⊢
  have hA : ∀ q : Nat, s.heap.size ≤ q → A q := fun q h => by rw [← hAe]; exact Or.inr h
  have hS : va_S A s.heap s.heap [] := va_S.rf
  have hP : va_P (dC, dI) vwCl [(tw, .inr (6, [.ref ca, .ref sg, .ref re, .ref be])), (re, .inl (cJ, 64, .inr (.inl fr))), (be, .inl (cJ, 64, .inr (.inl fb))), (sg, .inr (5, [.ref lg, .int on, .int il, .int ba]))] s.heap := hP
  have hl := lv_entry ([.ref tw, .int p1]) (n := 3) (Nat.le_of_ble_eq_true rfl)
  rw [lg_entry_eq]
  generalize (lg_sl ([.ref tw, .int p1]) ++ List.replicate (3 - (lg_sl ([.ref tw, .int p1])).length) Slot.unset).toArray = ls at hl ⊢
  have hl : lv_has ls 3 [(0, .ref tw), (1, .int p1)] := hl
  refine lv_iconst (v := 0) hx hb dX6_tryEntersAndExits_0 (by decide) ?_
  refine lv_istore_n (lv' := [(2, .int (0 : Int32)), (0, .ref tw), (1, .int p1)]) hx hb dX6_tryEntersAndExits_1 rfl hl (by decide) rfl (fun ls hl => ?_)
  refine zNm (fun R9 Q9 hR9 hQ9 => ?_)
  have L2 : ∀ (n2 : Nat) (fr1 : Nat → Int64) (i : Int32), 0 ≤ i.toInt → ((6 : Int32)).toInt - i.toInt < n2 ∧ 0 < n2 → lX6_tryEntersAndExits_2_fr fr fb on il ba p1 n2 fr1 i = oX6_tryEntersAndExits_fr fr fb on il ba p1 → ∀ (H : Heap) (locs : List Loc) (ls : Array Slot), va_P (dC, dI) vwCl [(tw, .inr (6, [.ref ca, .ref sg, .ref re, .ref be])), (re, .inl (cJ, 64, .inr (.inl fr1))), (be, .inl (cJ, 64, .inr (.inl fb))), (sg, .inr (5, [.ref lg, .int on, .int il, .int ba]))] H → va_D A [(tw, .inr (6, [.ref ca, .ref sg, .ref re, .ref be])), (re, .inl (cJ, 64, .inr (.inl fr1))), (be, .inl (cJ, 64, .inr (.inl fb))), (sg, .inr (5, [.ref lg, .int on, .int il, .int ba]))] → va_S A s.heap H locs → lv_has ls 3 [(2, .int i), (0, .ref tw), (1, .int p1)] → W p l e R9 s m ([.ref tw, .int p1] : List Value).toArray below meth c H locs 0 0 Q9 (F0 m 2 ls []) := by
    subst hR9; subst hQ9
    intro n2
    induction n2 with
    | zero => intro fr1 i hi0 hi2; exact absurd hi2.2 (by decide)
    | succ n2 ih2 =>
      intro fr1 i hi0 hi2 hres2_fr H locs ls hP hD hS hl
      refine lv_iload_n hx hb dX6_tryEntersAndExits_2 rfl (lv_at hl 0 rfl) ?_
      refine lv_bipush (v := 6) hx hb dX6_tryEntersAndExits_3 (by decide) ?_
      refine lv_icmp_ge (tgt := 47) hx hb dX6_tryEntersAndExits_5 (by decide) (fun c_1 => ?_) (fun c_1 => ?_)
      · exact W.vret hx hb hr (fun t ht hW => ⟨⟨(fr1), rfl, (by rw [← hres2_fr]; rw [lX6_tryEntersAndExits_2_fr]; rw [if_pos c_1]), (by rw [ht]; exact hP.sub [0, 1, 2, 3] rfl), va_K.moved hW.alike hK, hD.sub [0, 1, 2, 3] (by decide) rfl⟩, hS.F ht⟩) hS.2.2 dX6_tryEntersAndExits_47
      · refine lv_aload_n hx hb dX6_tryEntersAndExits_8 rfl (lv_at hl 1 rfl) ?_
        refine va_get (D := (dC, dI)) (ci := 6) (v := .ref sg) (C := RX6) (T := TX6) (N := 4) hx hb hts iX6_tryEntersAndExits_X6 hown hK hP 0 rfl rfl 1 (by decide) (hts _ kX6_tryEntersAndExits_1) (fun _ h9 => h9) rfl dX6_tryEntersAndExits_9 ?_
        refine va_get (D := (dC, dI)) (ci := 5) (v := .int il) (C := RX5) (T := TX5) (N := 4) hx hb hts iX6_tryEntersAndExits_X5 hown hK hP 3 rfl rfl 2 (by decide) (hts _ kX6_tryEntersAndExits_3) (fun _ h9 => h9) rfl dX6_tryEntersAndExits_12 ?_
        refine lv_iload_n hx hb dX6_tryEntersAndExits_15 rfl (lv_at hl 0 rfl) ?_
        refine zcSi (va_runSN (As := [.int il, .int i]) (rest := []) ⟨hx, hb, hml, hown, hts⟩ (c_X7_isIn l dC dI cI cJ H.size il i ) ⟨va_cnB 2 hts gX6_tryEntersAndExits_X7_isIn_n84 rfl rfl rfl (hG.1.1 _ (List.mem_of_getElem? (i := 6) rfl)) (hts _ kX6_tryEntersAndExits_4) (by decide +kernel) ⟨Nat.le_of_ble_eq_true rfl, Nat.le_of_ble_eq_true rfl⟩, (hts _ kX6_tryEntersAndExits_5), trivial⟩ (zpS hK hP hD hS hA hG [] (by decide) rfl) rfl rfl hl.1 rfl (lv_room (Nat.le_of_ble_eq_true rfl)) dX6_tryEntersAndExits_16 ⟨Nat.le_of_ble_eq_true rfl, Nat.le_of_ble_eq_true rfl⟩) ?_
        refine zNm (fun R9 Q9 hR9 hQ9 => ?_)
        have J41 : ∀ (v41_0 : (Nat → Int64)), v41_0 = (jX6_tryEntersAndExits_41_0 fr fb on il ba p1 fr1 i) → ∀ (H : Heap) (locs : List Loc) (ls : Array Slot), va_P (dC, dI) vwCl [(tw, .inr (6, [.ref ca, .ref sg, .ref re, .ref be])), (re, .inl (cJ, 64, .inr (.inl v41_0))), (be, .inl (cJ, 64, .inr (.inl fb))), (sg, .inr (5, [.ref lg, .int on, .int il, .int ba]))] H → va_D A [(tw, .inr (6, [.ref ca, .ref sg, .ref re, .ref be])), (re, .inl (cJ, 64, .inr (.inl v41_0))), (be, .inl (cJ, 64, .inr (.inl fb))), (sg, .inr (5, [.ref lg, .int on, .int il, .int ba]))] → va_S A s.heap H locs → lv_has ls 3 [(2, .int i), (0, .ref tw), (1, .int p1)] → W p l e R9 s m ([.ref tw, .int p1] : List Value).toArray below meth c H locs 0 0 Q9 (F0 m 41 ls []) := by
          subst hR9; subst hQ9
          intro v41_0 hvv41_0
          rw [hvv41_0]; clear hvv41_0 v41_0
          intro H locs ls hP hD hS hl
          refine lv_iinc (v := (i + 1)) (lv' := [(2, .int (i + 1)), (0, .ref tw), (1, .int p1)]) hx hb dX6_tryEntersAndExits_41 hl (k := 0) rfl rfl (by decide) rfl (fun ls hl => ?_)
          refine lv_goto (tgt := 2) hx hb dX6_tryEntersAndExits_44 (by decide) ?_
          exact ih2 (jX6_tryEntersAndExits_41_0 fr fb on il ba p1 fr1 i) (i + 1) (by have h9 := zInc (x := i) (y := (6 : Int32)) (by assumption); omega) (by have h9 := zInc (x := i) (y := (6 : Int32)) (by assumption); have h8 := zGo (x := i) (y := (6 : Int32)) (by assumption); omega) (by rw [← hres2_fr]; rw [lX6_tryEntersAndExits_2_fr]; rw [if_neg c_1]) _ _ _ hP hD hS (lv_sub hl [0, 1, 2] rfl)
        subst hR9; subst hQ9
        refine lv_if_ne (tgt := 41) hx hb dX6_tryEntersAndExits_19 (by decide) (fun c_2 => ?_) (fun c_2 => ?_)
        · exact J41 fr1 (by unfold jX6_tryEntersAndExits_41_0; rw [if_neg c_2]) _ _ _ hP hD hS (lv_sub hl [0, 1, 2] rfl)
        · refine lv_aload_n hx hb dX6_tryEntersAndExits_22 rfl (lv_at hl 1 rfl) ?_
          refine va_get (D := (dC, dI)) (ci := 6) (v := .ref re) (C := RX6) (T := TX6) (N := 4) hx hb hts iX6_tryEntersAndExits_X6 hown hK hP 0 rfl rfl 2 (by decide) (hts _ kX6_tryEntersAndExits_6) (fun _ h9 => h9) rfl dX6_tryEntersAndExits_23 ?_
          refine lv_iload_n hx hb dX6_tryEntersAndExits_26 rfl (lv_at hl 2 rfl) ?_
          refine lv_iconst (v := 1) hx hb dX6_tryEntersAndExits_27 (by decide) ?_
          refine lv_iload_n hx hb dX6_tryEntersAndExits_28 rfl (lv_at hl 0 rfl) ?_
          refine lv_ishl hx hb dX6_tryEntersAndExits_29 ?_
          refine lv_ixor hx hb dX6_tryEntersAndExits_30 ?_
          refine lv_dup2_11 hx hb dX6_tryEntersAndExits_31 rfl rfl ?_
          refine va_lald hx hb hK hP 1 1 rfl rfl (i := (p1 ^^^ ((1 : Int32) <<< (i &&& 31)))) (zXor hin1 (zin_c (by assumption) (by assumption) (by decide))) dX6_tryEntersAndExits_32 ?_
          refine lv_aload_n hx hb dX6_tryEntersAndExits_33 rfl (lv_at hl 1 rfl) ?_
          refine va_get (D := (dC, dI)) (ci := 6) (v := .ref be) (C := RX6) (T := TX6) (N := 4) hx hb hts iX6_tryEntersAndExits_X6 hown hK hP 0 rfl rfl 3 (by decide) (hts _ kX6_tryEntersAndExits_7) (fun _ h9 => h9) rfl dX6_tryEntersAndExits_34 ?_
          refine lv_iload_n hx hb dX6_tryEntersAndExits_37 rfl (lv_at hl 2 rfl) ?_
          refine va_lald hx hb hK hP 2 1 rfl rfl (i := p1) hin1 dX6_tryEntersAndExits_38 ?_
          refine lv_lor hx hb dX6_tryEntersAndExits_39 ?_
          refine va_last hx hb hK hP hD hS 1 1 rfl rfl (i := (p1 ^^^ ((1 : Int32) <<< (i &&& 31)))) (x := ((fr1 ((p1 ^^^ ((1 : Int32) <<< (i &&& 31)))).toNatClampNeg) ||| (fb (p1).toNatClampNeg))) (zXor hin1 (zin_c (by assumption) (by assumption) (by decide))) dX6_tryEntersAndExits_40 (fun H locs hP hD hS => ?_)
          have hP : va_P (dC, dI) vwCl [(tw, .inr (6, [.ref ca, .ref sg, .ref re, .ref be])), (re, .inl (cJ, 64, .inr (.inl (vp_updL fr1 ((p1 ^^^ ((1 : Int32) <<< (i &&& 31)))).toNatClampNeg ((fr1 ((p1 ^^^ ((1 : Int32) <<< (i &&& 31)))).toNatClampNeg) ||| (fb (p1).toNatClampNeg)))))), (be, .inl (cJ, 64, .inr (.inl fb))), (sg, .inr (5, [.ref lg, .int on, .int il, .int ba]))] H := hP
          have hD : va_D A [(tw, .inr (6, [.ref ca, .ref sg, .ref re, .ref be])), (re, .inl (cJ, 64, .inr (.inl (vp_updL fr1 ((p1 ^^^ ((1 : Int32) <<< (i &&& 31)))).toNatClampNeg ((fr1 ((p1 ^^^ ((1 : Int32) <<< (i &&& 31)))).toNatClampNeg) ||| (fb (p1).toNatClampNeg)))))), (be, .inl (cJ, 64, .inr (.inl fb))), (sg, .inr (5, [.ref lg, .int on, .int il, .int ba]))] := hD
          exact J41 (vp_updL fr1 ((p1 ^^^ ((1 : Int32) <<< (i &&& 31)))).toNatClampNeg ((fr1 ((p1 ^^^ ((1 : Int32) <<< (i &&& 31)))).toNatClampNeg) ||| (fb (p1).toNatClampNeg))) (by unfold jX6_tryEntersAndExits_41_0; rw [if_pos c_2]) _ _ _ hP hD hS (lv_sub hl [0, 1, 2] rfl)
  subst hR9; subst hQ9
  exact L2 7 fr (0 : Int32) (by decide) (by decide) (by unfold oX6_tryEntersAndExits_fr; rfl) _ _ _ hP hD hS (lv_sub hl [0, 1, 2] rfl)

/-! X6_casesAfterTelling -/
def jX6_casesAfterTelling_76_0 (fr : Nat → Int64) (fb : Nat → Int64) (p1 : Int32) (p2 : Int32) (cs1 : Int64) (a1 : Int32) (cs2 : Int64) (b1 : Int32) : Int64 := (if (rX7_isIn p1 a1) = 0 then cs2 else (if (rX7_isIn (p1 &&& (p2 ^^^ (-1 : Int32))) b1) = 0 then cs2 else (cs2 ||| ((((fb (p1).toNatClampNeg) &&& (zKT (a1).toNatClampNeg)) &&& ((zKT (b1).toNatClampNeg) ^^^ (-1 : Int64))) <<< ((((1 : Int32) <<< (b1 &&& 31))).toInt64 &&& 63)))))
def lX6_casesAfterTelling_15_r (fr : Nat → Int64) (fb : Nat → Int64) (p1 : Int32) (p2 : Int32) (cs1 : Int64) (a1 : Int32) (k5 : (Int64) → (Int32) → Int64) : Nat → (Int64) → (Int32) → (Int64)
  | 0, _, _ => 0
  | n15 + 1, cs2, b1 => (if (6 : Int32) ≤ b1 then (k5 cs2 (a1 + 1)) else (lX6_casesAfterTelling_15_r fr fb p1 p2 cs1 a1 k5 n15 (jX6_casesAfterTelling_76_0 fr fb p1 p2 cs1 a1 cs2 b1) (b1 + 1)))
def lX6_casesAfterTelling_5_r (fr : Nat → Int64) (fb : Nat → Int64) (p1 : Int32) (p2 : Int32) : Nat → (Int64) → (Int32) → (Int64)
  | 0, _, _ => 0
  | n5 + 1, cs1, a1 => (if (6 : Int32) ≤ a1 then cs1 else (lX6_casesAfterTelling_15_r fr fb p1 p2 cs1 a1 (fun cs1 a1 => lX6_casesAfterTelling_5_r fr fb p1 p2 n5 cs1 a1) 7 cs1 (0 : Int32)))
def rX6_casesAfterTelling (fr : Nat → Int64) (fb : Nat → Int64) (p1 : Int32) (p2 : Int32) : Int64 := (lX6_casesAfterTelling_5_r fr fb p1 p2 7 (0 : Int64) (0 : Int32))
set_option maxRecDepth 20000 in
theorem kX6_casesAfterTelling_0 : Cond.initialized RX7 ∈ wsX6_casesAfterTelling := by decide +kernel
set_option maxRecDepth 20000 in
theorem kX6_casesAfterTelling_1 : Cond.static yX7_isIn ∈ wsX6_casesAfterTelling := by decide +kernel
set_option maxRecDepth 20000 in
theorem iX6_casesAfterTelling_X6 : ∀ w ∈ u_ws RX6 TX6 4, w ∈ wsX6_casesAfterTelling := by decide +kernel
set_option maxRecDepth 20000 in
theorem kX6_casesAfterTelling_3 : Cond.fieldLink RX6 15 "MaskHall$TriedWay" "before" "[J" ∈ wsX6_casesAfterTelling := by decide +kernel
set_option maxRecDepth 20000 in
theorem kX6_casesAfterTelling_4 : Cond.fieldLink RX6 90 "MaskHall$TriedWay" "KNOWN_TO" "[J" ∈ wsX6_casesAfterTelling := by decide +kernel
set_option maxRecDepth 20000 in
theorem kX6_casesAfterTelling_5 : Cond.constantLong RX6 88 (-1) ∈ wsX6_casesAfterTelling := by decide +kernel
set_option maxHeartbeats 1260000 in
set_option maxRecDepth 100000 in
theorem c_X6_casesAfterTelling (l : Launch) (dC : Nat → ClassId) (dI : Nat → Nat → Nat) (cI cJ : ClassId) (tw re be ca sg : Nat) (sz : Nat) (fr : Nat → Int64) (fb : Nat → Int64) (p1 : Int32) (p2 : Int32) (hin1 : vp_in p1 64) : Met l yX6_casesAfterTelling wsX6_casesAfterTelling ({ frames := 1, cells := 0, slots := 0, locals := 21 }) (va_Pc [.ref tw, .int p1, .int p2] (zI (dC, dI) [(cI, .int), (cJ, .long)] [(tw, .inr (6, [.ref ca, .ref sg, .ref re, .ref be])), (re, .inl (cJ, 64, .inr (.inl fr))), (be, .inl (cJ, 64, .inr (.inl fb)))] sz)) (vp_Sl (fun r => r = rX6_casesAfterTelling fr fb p1 p2)) 0 0 (fun _ => False) := by
  refine Met.ofW (cc := cX6_casesAfterTelling) (maxL := 7) (ret := (some .long)) (by decide) rfl ?_
  intro p e s m args below meth c s₁ B hml hv
  obtain ⟨rfl, hsz, hP, hK, hD0, hG⟩ := hv
  have hx := B.exec
  have hb := B.bytes
  have hr := B.returns
  have hts := atoms_spec (ws := wsX6_casesAfterTelling) B.pre
  have hown : s.vm.findClass RX6 = some m.cls := findClass_of_methodNamed B.named
  have hlocks := B.notSynchronized
  subst hsz
  have hD := hD0.self (sz := s.heap.size)
  generalize hAe : va_A [(tw, .inr (6, [.ref ca, .ref sg, .ref re, .ref be])), (re, .inl (cJ, 64, .inr (.inl fr))), (be, .inl (cJ, 64, .inr (.inl fb)))] s.heap.size = A at hD hG
  have hA : ∀ q : Nat, s.heap.size ≤ q → A q := fun q h => by rw [← hAe]; exact Or.inr h
  have hS : va_S A s.heap s.heap [] := va_S.rf
  have hP : va_P (dC, dI) vwCl [(tw, .inr (6, [.ref ca, .ref sg, .ref re, .ref be])), (re, .inl (cJ, 64, .inr (.inl fr))), (be, .inl (cJ, 64, .inr (.inl fb)))] s.heap := hP
  obtain ⟨tKN, hZkn, hTkn⟩ := hG.2.2
  have hl := lv_entry ([.ref tw, .int p1, .int p2]) (n := 7) (Nat.le_of_ble_eq_true rfl)
  rw [lg_entry_eq]
  generalize (lg_sl ([.ref tw, .int p1, .int p2]) ++ List.replicate (7 - (lg_sl ([.ref tw, .int p1, .int p2])).length) Slot.unset).toArray = ls at hl ⊢
  have hl : lv_has ls 7 [(0, .ref tw), (1, .int p1), (2, .int p2)] := hl
  refine lv_lconst (v := 0) hx hb dX6_casesAfterTelling_0 (by decide) ?_
  refine lv_lstore_n (lv' := [(3, .long (0 : Int64)), (0, .ref tw), (1, .int p1), (2, .int p2)]) hx hb dX6_casesAfterTelling_1 rfl hl (by decide) rfl (fun ls hl => ?_)
  refine lv_iconst (v := 0) hx hb dX6_casesAfterTelling_2 (by decide) ?_
  refine lv_istore (lv' := [(5, .int (0 : Int32)), (3, .long (0 : Int64)), (0, .ref tw), (1, .int p1), (2, .int p2)]) hx hb dX6_casesAfterTelling_3 hl (by decide) rfl (fun ls hl => ?_)
  refine zNm (fun R9 Q9 hR9 hQ9 => ?_)
  have L5 : ∀ (n5 : Nat) (cs1 : Int64) (a1 : Int32), 0 ≤ a1.toInt → ((6 : Int32)).toInt - a1.toInt < n5 ∧ 0 < n5 → lX6_casesAfterTelling_5_r fr fb p1 p2 n5 cs1 a1 = rX6_casesAfterTelling fr fb p1 p2 → ∀ (ls : Array Slot), lv_has ls 7 [(5, .int a1), (3, .long cs1), (0, .ref tw), (1, .int p1), (2, .int p2)] → W p l e R9 s m ([.ref tw, .int p1, .int p2] : List Value).toArray below meth c s.heap [] 0 0 Q9 (F0 m 5 ls []) := by
    subst hR9; subst hQ9
    intro n5
    induction n5 with
    | zero => intro cs1 a1 hi0 hi2; exact absurd hi2.2 (by decide)
    | succ n5 ih5 =>
      intro cs1 a1 hi0 hi2 hres5_r ls hl
      refine lv_iload hx hb dX6_casesAfterTelling_5 (lv_at hl 0 rfl) ?_
      refine lv_bipush (v := 6) hx hb dX6_casesAfterTelling_7 (by decide) ?_
      refine lv_icmp_ge (tgt := 88) hx hb dX6_casesAfterTelling_9 (by decide) (fun c_1 => ?_) (fun c_1 => ?_)
      · refine lv_lload_n hx hb dX6_casesAfterTelling_88 rfl (lv_at hl 1 rfl) ?_
        exact W.lret (v := cs1) hx hb hr (fun t ht hW => ⟨_, rfl, (by rw [← hres5_r]; rw [lX6_casesAfterTelling_5_r]; rw [if_pos c_1]), ht⟩) (fun q hq => absurd hq List.not_mem_nil) dX6_casesAfterTelling_89
      · refine lv_iconst (v := 0) hx hb dX6_casesAfterTelling_12 (by decide) ?_
        refine lv_istore (lv' := [(6, .int (0 : Int32)), (5, .int a1), (3, .long cs1), (0, .ref tw), (1, .int p1), (2, .int p2)]) hx hb dX6_casesAfterTelling_13 hl (by decide) rfl (fun ls hl => ?_)
        refine zNm (fun R9 Q9 hR9 hQ9 => ?_)
        have L15 : ∀ (n15 : Nat) (cs2 : Int64) (b1 : Int32), 0 ≤ b1.toInt → ((6 : Int32)).toInt - b1.toInt < n15 ∧ 0 < n15 → lX6_casesAfterTelling_15_r fr fb p1 p2 cs1 a1 (fun cs1 a1 => lX6_casesAfterTelling_5_r fr fb p1 p2 n5 cs1 a1) n15 cs2 b1 = rX6_casesAfterTelling fr fb p1 p2 → ∀ (ls : Array Slot), lv_has ls 7 [(6, .int b1), (5, .int a1), (3, .long cs2), (0, .ref tw), (1, .int p1), (2, .int p2)] → W p l e R9 s m ([.ref tw, .int p1, .int p2] : List Value).toArray below meth c s.heap [] 0 0 Q9 (F0 m 15 ls []) := by
          subst hR9; subst hQ9
          intro n15
          induction n15 with
          | zero => intro cs2 b1 hk0 hk2; exact absurd hk2.2 (by decide)
          | succ n15 ih15 =>
            intro cs2 b1 hk0 hk2 hres15_r ls hl
            refine lv_iload hx hb dX6_casesAfterTelling_15 (lv_at hl 0 rfl) ?_
            refine lv_bipush (v := 6) hx hb dX6_casesAfterTelling_17 (by decide) ?_
            refine lv_icmp_ge (tgt := 82) hx hb dX6_casesAfterTelling_19 (by decide) (fun c_2 => ?_) (fun c_2 => ?_)
            · refine lv_iinc (v := (a1 + 1)) (lv' := [(5, .int (a1 + 1)), (6, .int b1), (3, .long cs2), (0, .ref tw), (1, .int p1), (2, .int p2)]) hx hb dX6_casesAfterTelling_82 hl (k := 1) rfl rfl (by decide) rfl (fun ls hl => ?_)
              refine lv_goto (tgt := 5) hx hb dX6_casesAfterTelling_85 (by decide) ?_
              exact ih5 cs2 (a1 + 1) (by have h9 := zInc (x := a1) (y := (6 : Int32)) (by assumption); omega) (by have h9 := zInc (x := a1) (y := (6 : Int32)) (by assumption); have h8 := zGo (x := a1) (y := (6 : Int32)) (by assumption); omega) (by rw [← hres15_r]; rw [lX6_casesAfterTelling_15_r]; rw [if_pos c_2]) _ (lv_sub hl [0, 2, 3, 4, 5] rfl)
            · refine lv_iload_n hx hb dX6_casesAfterTelling_22 rfl (lv_at hl 4 rfl) ?_
              refine lv_iload hx hb dX6_casesAfterTelling_23 (lv_at hl 1 rfl) ?_
              refine zcSi (va_runSN (As := [.int p1, .int a1]) (rest := []) ⟨hx, hb, hml, hown, hts⟩ (c_X7_isIn l dC dI cI cJ s.heap.size p1 a1 ) ⟨va_cnB 2 hts gX6_casesAfterTelling_X7_isIn_n84 rfl rfl rfl (hG.1.1 _ (List.mem_of_getElem? (i := 6) rfl)) (hts _ kX6_casesAfterTelling_0) (by decide +kernel) ⟨Nat.le_of_ble_eq_true rfl, Nat.le_of_ble_eq_true rfl⟩, (hts _ kX6_casesAfterTelling_1), trivial⟩ (zpS hK hP hD hS hA hG [] (by decide) rfl) rfl rfl hl.1 rfl (lv_room (Nat.le_of_ble_eq_true rfl)) dX6_casesAfterTelling_25 ⟨Nat.le_of_ble_eq_true rfl, Nat.le_of_ble_eq_true rfl⟩) ?_
              refine zNm (fun R9 Q9 hR9 hQ9 => ?_)
              have J76 : ∀ (v76_0 : Int64), v76_0 = (jX6_casesAfterTelling_76_0 fr fb p1 p2 cs1 a1 cs2 b1) → ∀ (ls : Array Slot), lv_has ls 7 [(6, .int b1), (5, .int a1), (3, .long v76_0), (0, .ref tw), (1, .int p1), (2, .int p2)] → W p l e R9 s m ([.ref tw, .int p1, .int p2] : List Value).toArray below meth c s.heap [] 0 0 Q9 (F0 m 76 ls []) := by
                subst hR9; subst hQ9
                intro v76_0 hvv76_0
                rw [hvv76_0]; clear hvv76_0 v76_0
                intro ls hl
                refine lv_iinc (v := (b1 + 1)) (lv' := [(6, .int (b1 + 1)), (5, .int a1), (3, .long (jX6_casesAfterTelling_76_0 fr fb p1 p2 cs1 a1 cs2 b1)), (0, .ref tw), (1, .int p1), (2, .int p2)]) hx hb dX6_casesAfterTelling_76 hl (k := 0) rfl rfl (by decide) rfl (fun ls hl => ?_)
                refine lv_goto (tgt := 15) hx hb dX6_casesAfterTelling_79 (by decide) ?_
                exact ih15 (jX6_casesAfterTelling_76_0 fr fb p1 p2 cs1 a1 cs2 b1) (b1 + 1) (by have h9 := zInc (x := b1) (y := (6 : Int32)) (by assumption); omega) (by have h9 := zInc (x := b1) (y := (6 : Int32)) (by assumption); have h8 := zGo (x := b1) (y := (6 : Int32)) (by assumption); omega) (by rw [← hres15_r]; rw [lX6_casesAfterTelling_15_r]; rw [if_neg c_2]) _ (lv_sub hl [0, 1, 2, 3, 4, 5] rfl)
              subst hR9; subst hQ9
              refine lv_if_eq (tgt := 76) hx hb dX6_casesAfterTelling_28 (by decide) (fun c_3 => ?_) (fun c_3 => ?_)
              · exact J76 cs2 (by unfold jX6_casesAfterTelling_76_0; rw [if_pos c_3]) _ (lv_sub hl [0, 1, 2, 3, 4, 5] rfl)
              · refine lv_iload_n hx hb dX6_casesAfterTelling_31 rfl (lv_at hl 4 rfl) ?_
                refine lv_iload_n hx hb dX6_casesAfterTelling_32 rfl (lv_at hl 5 rfl) ?_
                refine lv_iconst (v := -1) hx hb dX6_casesAfterTelling_33 (by decide) ?_
                refine lv_ixor hx hb dX6_casesAfterTelling_34 ?_
                refine lv_iand hx hb dX6_casesAfterTelling_35 ?_
                refine lv_iload hx hb dX6_casesAfterTelling_36 (lv_at hl 0 rfl) ?_
                refine zcSi (va_runSN (As := [.int (p1 &&& (p2 ^^^ (-1 : Int32))), .int b1]) (rest := []) ⟨hx, hb, hml, hown, hts⟩ (c_X7_isIn l dC dI cI cJ s.heap.size (p1 &&& (p2 ^^^ (-1 : Int32))) b1 ) ⟨va_cnB 2 hts gX6_casesAfterTelling_X7_isIn_n84 rfl rfl rfl (hG.1.1 _ (List.mem_of_getElem? (i := 6) rfl)) (hts _ kX6_casesAfterTelling_0) (by decide +kernel) ⟨Nat.le_of_ble_eq_true rfl, Nat.le_of_ble_eq_true rfl⟩, (hts _ kX6_casesAfterTelling_1), trivial⟩ (zpS hK hP hD hS hA hG [] (by decide) rfl) rfl rfl hl.1 rfl (lv_room (Nat.le_of_ble_eq_true rfl)) dX6_casesAfterTelling_38 ⟨Nat.le_of_ble_eq_true rfl, Nat.le_of_ble_eq_true rfl⟩) ?_
                refine lv_if_eq (tgt := 76) hx hb dX6_casesAfterTelling_41 (by decide) (fun c_4 => ?_) (fun c_4 => ?_)
                · exact J76 cs2 (by unfold jX6_casesAfterTelling_76_0; rw [if_neg c_3, if_pos c_4]) _ (lv_sub hl [0, 1, 2, 3, 4, 5] rfl)
                · refine lv_lload_n hx hb dX6_casesAfterTelling_44 rfl (lv_at hl 2 rfl) ?_
                  refine lv_aload_n hx hb dX6_casesAfterTelling_45 rfl (lv_at hl 3 rfl) ?_
                  refine va_get (D := (dC, dI)) (ci := 6) (v := .ref be) (C := RX6) (T := TX6) (N := 4) hx hb hts iX6_casesAfterTelling_X6 hown hK hP 0 rfl rfl 3 (by decide) (hts _ kX6_casesAfterTelling_3) (fun _ h9 => h9) rfl dX6_casesAfterTelling_46 ?_
                  refine lv_iload_n hx hb dX6_casesAfterTelling_49 rfl (lv_at hl 4 rfl) ?_
                  refine va_lald hx hb hK hP 2 1 rfl rfl (i := p1) hin1 dX6_casesAfterTelling_50 ?_
                  refine va_gets hx hb hZkn hS hown (hts _ kX6_casesAfterTelling_4) (fun _ h9 => h9) dX6_casesAfterTelling_51 ?_
                  refine lv_iload hx hb dX6_casesAfterTelling_54 (lv_at hl 1 rfl) ?_
                  refine va_tl hx hb hTkn hS (i := a1) (zin_c hi0 (by assumption) (by decide)) rfl dX6_casesAfterTelling_56 ?_
                  refine lv_land hx hb dX6_casesAfterTelling_57 ?_
                  refine va_gets hx hb hZkn hS hown (hts _ kX6_casesAfterTelling_4) (fun _ h9 => h9) dX6_casesAfterTelling_58 ?_
                  refine lv_iload hx hb dX6_casesAfterTelling_61 (lv_at hl 0 rfl) ?_
                  refine va_tl hx hb hTkn hS (i := b1) (zin_c hk0 (by assumption) (by decide)) rfl dX6_casesAfterTelling_63 ?_
                  refine lv_ldc2 hx hb hown (hts _ kX6_casesAfterTelling_5) dX6_casesAfterTelling_64 ?_
                  refine lv_lxor hx hb dX6_casesAfterTelling_67 ?_
                  refine lv_land hx hb dX6_casesAfterTelling_68 ?_
                  refine lv_iconst (v := 1) hx hb dX6_casesAfterTelling_69 (by decide) ?_
                  refine lv_iload hx hb dX6_casesAfterTelling_70 (lv_at hl 0 rfl) ?_
                  refine lv_ishl hx hb dX6_casesAfterTelling_72 ?_
                  refine lv_lshl hx hb dX6_casesAfterTelling_73 rfl ?_
                  refine lv_lor hx hb dX6_casesAfterTelling_74 ?_
                  refine lv_lstore_n (lv' := [(3, .long (cs2 ||| ((((fb (p1).toNatClampNeg) &&& (zKT (a1).toNatClampNeg)) &&& ((zKT (b1).toNatClampNeg) ^^^ (-1 : Int64))) <<< ((((1 : Int32) <<< (b1 &&& 31))).toInt64 &&& 63)))), (6, .int b1), (5, .int a1), (0, .ref tw), (1, .int p1), (2, .int p2)]) hx hb dX6_casesAfterTelling_75 rfl hl (by decide) rfl (fun ls hl => ?_)
                  exact J76 (cs2 ||| ((((fb (p1).toNatClampNeg) &&& (zKT (a1).toNatClampNeg)) &&& ((zKT (b1).toNatClampNeg) ^^^ (-1 : Int64))) <<< ((((1 : Int32) <<< (b1 &&& 31))).toInt64 &&& 63))) (by unfold jX6_casesAfterTelling_76_0; rw [if_neg c_3, if_neg c_4]) _ (lv_sub hl [1, 2, 0, 3, 4, 5] rfl)
        subst hR9; subst hQ9
        exact L15 7 cs1 (0 : Int32) (by decide) (by decide) (by rw [← hres5_r]; rw [lX6_casesAfterTelling_5_r]; rw [if_neg c_1]) _ (lv_sub hl [0, 1, 2, 3, 4, 5] rfl)
  subst hR9; subst hQ9
  exact L5 7 (0 : Int64) (0 : Int32) (by decide) (by decide) (by unfold rX6_casesAfterTelling; rfl) _ (lv_sub hl [0, 1, 2, 3, 4] rfl)

/-! X6_casesAfterGiving -/
def rX6_casesAfterGiving (fr : Nat → Int64) (fb : Nat → Int64) (p1 : Int32) : Int64 := (if (lg_cmp ((fb (p1).toNatClampNeg) &&& (((p1).toInt64 <<< (((1 : Int32)).toInt64 &&& 63)) ||| (1 : Int64))) (0 : Int64)) = 0 then (0 : Int64) else ((p1).toInt64 <<< (((1 : Int32)).toInt64 &&& 63)))
set_option maxRecDepth 20000 in
theorem iX6_casesAfterGiving_X6 : ∀ w ∈ u_ws RX6 TX6 4, w ∈ wsX6_casesAfterGiving := by decide +kernel
set_option maxRecDepth 20000 in
theorem kX6_casesAfterGiving_1 : Cond.fieldLink RX6 15 "MaskHall$TriedWay" "before" "[J" ∈ wsX6_casesAfterGiving := by decide +kernel
set_option maxHeartbeats 620000 in
set_option maxRecDepth 100000 in
theorem c_X6_casesAfterGiving (l : Launch) (dC : Nat → ClassId) (dI : Nat → Nat → Nat) (cI cJ : ClassId) (tw re be ca sg : Nat) (sz : Nat) (fr : Nat → Int64) (fb : Nat → Int64) (p1 : Int32) (hin1 : vp_in p1 64) : Met l yX6_casesAfterGiving wsX6_casesAfterGiving ({ frames := 0, cells := 0, slots := 0, locals := 0 }) (va_Pc [.ref tw, .int p1] (zI (dC, dI) [(cI, .int), (cJ, .long)] [(tw, .inr (6, [.ref ca, .ref sg, .ref re, .ref be])), (re, .inl (cJ, 64, .inr (.inl fr))), (be, .inl (cJ, 64, .inr (.inl fb)))] sz)) (vp_Sl (fun r => r = rX6_casesAfterGiving fr fb p1)) 0 0 (fun _ => False) := by
  refine Met.ofW (cc := cX6_casesAfterGiving) (maxL := 6) (ret := (some .long)) (by decide) rfl ?_
  intro p e s m args below meth c s₁ B hml hv
  obtain ⟨rfl, hsz, hP, hK, hD0, hG⟩ := hv
  have hx := B.exec
  have hb := B.bytes
  have hr := B.returns
  have hts := atoms_spec (ws := wsX6_casesAfterGiving) B.pre
  have hown : s.vm.findClass RX6 = some m.cls := findClass_of_methodNamed B.named
  have hlocks := B.notSynchronized
  subst hsz
  have hD := hD0.self (sz := s.heap.size)
  generalize hAe : va_A [(tw, .inr (6, [.ref ca, .ref sg, .ref re, .ref be])), (re, .inl (cJ, 64, .inr (.inl fr))), (be, .inl (cJ, 64, .inr (.inl fb)))] s.heap.size = A at hD hG
  have hA : ∀ q : Nat, s.heap.size ≤ q → A q := fun q h => by rw [← hAe]; exact Or.inr h
  have hS : va_S A s.heap s.heap [] := va_S.rf
  have hP : va_P (dC, dI) vwCl [(tw, .inr (6, [.ref ca, .ref sg, .ref re, .ref be])), (re, .inl (cJ, 64, .inr (.inl fr))), (be, .inl (cJ, 64, .inr (.inl fb)))] s.heap := hP
  have hl := lv_entry ([.ref tw, .int p1]) (n := 6) (Nat.le_of_ble_eq_true rfl)
  rw [lg_entry_eq]
  generalize (lg_sl ([.ref tw, .int p1]) ++ List.replicate (6 - (lg_sl ([.ref tw, .int p1])).length) Slot.unset).toArray = ls at hl ⊢
  have hl : lv_has ls 6 [(0, .ref tw), (1, .int p1)] := hl
  refine lv_iload_n hx hb dX6_casesAfterGiving_0 rfl (lv_at hl 1 rfl) ?_
  refine lv_i2l hx hb dX6_casesAfterGiving_1 rfl ?_
  refine lv_iconst (v := 1) hx hb dX6_casesAfterGiving_2 (by decide) ?_
  refine lv_lshl hx hb dX6_casesAfterGiving_3 rfl ?_
  refine lv_lstore_n (lv' := [(2, .long ((p1).toInt64 <<< (((1 : Int32)).toInt64 &&& 63))), (0, .ref tw), (1, .int p1)]) hx hb dX6_casesAfterGiving_4 rfl hl (by decide) rfl (fun ls hl => ?_)
  refine lv_lconst (v := 1) hx hb dX6_casesAfterGiving_5 (by decide) ?_
  refine lv_lstore (lv' := [(4, .long (1 : Int64)), (2, .long ((p1).toInt64 <<< (((1 : Int32)).toInt64 &&& 63))), (0, .ref tw), (1, .int p1)]) hx hb dX6_casesAfterGiving_6 hl (by decide) rfl (fun ls hl => ?_)
  refine lv_aload_n hx hb dX6_casesAfterGiving_8 rfl (lv_at hl 2 rfl) ?_
  refine va_get (D := (dC, dI)) (ci := 6) (v := .ref be) (C := RX6) (T := TX6) (N := 4) hx hb hts iX6_casesAfterGiving_X6 hown hK hP 0 rfl rfl 3 (by decide) (hts _ kX6_casesAfterGiving_1) (fun _ h9 => h9) rfl dX6_casesAfterGiving_9 ?_
  refine lv_iload_n hx hb dX6_casesAfterGiving_12 rfl (lv_at hl 3 rfl) ?_
  refine va_lald hx hb hK hP 2 1 rfl rfl (i := p1) hin1 dX6_casesAfterGiving_13 ?_
  refine lv_lload_n hx hb dX6_casesAfterGiving_14 rfl (lv_at hl 1 rfl) ?_
  refine lv_lload hx hb dX6_casesAfterGiving_15 (lv_at hl 0 rfl) ?_
  refine lv_lor hx hb dX6_casesAfterGiving_17 ?_
  refine lv_land hx hb dX6_casesAfterGiving_18 ?_
  refine lv_lconst (v := 0) hx hb dX6_casesAfterGiving_19 (by decide) ?_
  refine W.lcmp hx hb dX6_casesAfterGiving_20 ?_
  refine lv_if_eq (tgt := 28) hx hb dX6_casesAfterGiving_21 (by decide) (fun c_1 => ?_) (fun c_1 => ?_)
  · refine lv_lconst (v := 0) hx hb dX6_casesAfterGiving_28 (by decide) ?_
    exact W.lret (v := (0 : Int64)) hx hb hr (fun t ht hW => ⟨_, rfl, (by unfold rX6_casesAfterGiving; rw [if_pos c_1]), ht⟩) (fun q hq => absurd hq List.not_mem_nil) dX6_casesAfterGiving_29
  · refine lv_lload_n hx hb dX6_casesAfterGiving_24 rfl (lv_at hl 1 rfl) ?_
    refine lv_goto (tgt := 29) hx hb dX6_casesAfterGiving_25 (by decide) ?_
    exact W.lret (v := ((p1).toInt64 <<< (((1 : Int32)).toInt64 &&& 63))) hx hb hr (fun t ht hW => ⟨_, rfl, (by unfold rX6_casesAfterGiving; rw [if_neg c_1]), ht⟩) (fun q hq => absurd hq List.not_mem_nil) dX6_casesAfterGiving_29

/-! X6_tryOneMoreMove -/
def jX6_tryOneMoreMove_116_0 (fr : Nat → Int64) (fb : Nat → Int64) (ki : Nat → Int32) (fi : Nat → Int32) (se : Nat → Int32) (th : Nat → Int32) (size : Int32) (on : Int32) (il : Int32) (ba : Int32) (p1 : Int32) (fr1 : Nat → Int64) (i : Int32) : (Nat → Int64) := (if (lg_cmp ((va_cpy fr fb ((0 : Int32)).toNatClampNeg ((0 : Int32)).toNatClampNeg ((64 : Int32)).toNatClampNeg) (i).toNatClampNeg) (0 : Int64)) = 0 then fr1 else (if (ki (p1).toNatClampNeg) = 0 then (vp_updL (oX6_tryEntersAndExits_fr fr1 (va_cpy fr fb ((0 : Int32)).toNatClampNeg ((0 : Int32)).toNatClampNeg ((64 : Int32)).toNatClampNeg) on il ba i) (i).toNatClampNeg (((oX6_tryEntersAndExits_fr fr1 (va_cpy fr fb ((0 : Int32)).toNatClampNeg ((0 : Int32)).toNatClampNeg ((64 : Int32)).toNatClampNeg) on il ba i) (i).toNatClampNeg) ||| (rX6_casesAfterTelling (oX6_tryEntersAndExits_fr fr1 (va_cpy fr fb ((0 : Int32)).toNatClampNeg ((0 : Int32)).toNatClampNeg ((64 : Int32)).toNatClampNeg) on il ba i) (va_cpy fr fb ((0 : Int32)).toNatClampNeg ((0 : Int32)).toNatClampNeg ((64 : Int32)).toNatClampNeg) i (rX0_listenersFrom ki fi se th size p1 (th (p1).toNatClampNeg))))) else (if (ki (p1).toNatClampNeg) = (1 : Int32) then (vp_updL (oX6_tryEntersAndExits_fr fr1 (va_cpy fr fb ((0 : Int32)).toNatClampNeg ((0 : Int32)).toNatClampNeg ((64 : Int32)).toNatClampNeg) on il ba i) (i).toNatClampNeg (((oX6_tryEntersAndExits_fr fr1 (va_cpy fr fb ((0 : Int32)).toNatClampNeg ((0 : Int32)).toNatClampNeg ((64 : Int32)).toNatClampNeg) on il ba i) (i).toNatClampNeg) ||| (rX6_casesAfterGiving (oX6_tryEntersAndExits_fr fr1 (va_cpy fr fb ((0 : Int32)).toNatClampNeg ((0 : Int32)).toNatClampNeg ((64 : Int32)).toNatClampNeg) on il ba i) (va_cpy fr fb ((0 : Int32)).toNatClampNeg ((0 : Int32)).toNatClampNeg ((64 : Int32)).toNatClampNeg) i))) else (oX6_tryEntersAndExits_fr fr1 (va_cpy fr fb ((0 : Int32)).toNatClampNeg ((0 : Int32)).toNatClampNeg ((64 : Int32)).toNatClampNeg) on il ba i))))
def lX6_tryOneMoreMove_46_fr (fr : Nat → Int64) (fb : Nat → Int64) (ki : Nat → Int32) (fi : Nat → Int32) (se : Nat → Int32) (th : Nat → Int32) (size : Int32) (on : Int32) (il : Int32) (ba : Int32) (p1 : Int32) : Nat → (Nat → Int64) → (Int32) → (Nat → Int64)
  | 0, _, _ => fun _ => 0
  | n46 + 1, fr1, i => (if (64 : Int32) ≤ i then fr1 else (lX6_tryOneMoreMove_46_fr fr fb ki fi se th size on il ba p1 n46 (jX6_tryOneMoreMove_116_0 fr fb ki fi se th size on il ba p1 fr1 i) (i + 1)))
def lX6_tryOneMoreMove_46_fb (fr : Nat → Int64) (fb : Nat → Int64) (ki : Nat → Int32) (fi : Nat → Int32) (se : Nat → Int32) (th : Nat → Int32) (size : Int32) (on : Int32) (il : Int32) (ba : Int32) (p1 : Int32) : Nat → (Nat → Int64) → (Int32) → (Nat → Int64)
  | 0, _, _ => fun _ => 0
  | n46 + 1, fr1, i => (if (64 : Int32) ≤ i then (va_cpy fr fb ((0 : Int32)).toNatClampNeg ((0 : Int32)).toNatClampNeg ((64 : Int32)).toNatClampNeg) else (lX6_tryOneMoreMove_46_fb fr fb ki fi se th size on il ba p1 n46 (jX6_tryOneMoreMove_116_0 fr fb ki fi se th size on il ba p1 fr1 i) (i + 1)))
def oX6_tryOneMoreMove_fr (fr : Nat → Int64) (fb : Nat → Int64) (ki : Nat → Int32) (fi : Nat → Int32) (se : Nat → Int32) (th : Nat → Int32) (size : Int32) (on : Int32) (il : Int32) (ba : Int32) (p1 : Int32) : Nat → Int64 := (lX6_tryOneMoreMove_46_fr fr fb ki fi se th size on il ba p1 65 fr (0 : Int32))
def oX6_tryOneMoreMove_fb (fr : Nat → Int64) (fb : Nat → Int64) (ki : Nat → Int32) (fi : Nat → Int32) (se : Nat → Int32) (th : Nat → Int32) (size : Int32) (on : Int32) (il : Int32) (ba : Int32) (p1 : Int32) : Nat → Int64 := (lX6_tryOneMoreMove_46_fb fr fb ki fi se th size on il ba p1 65 fr (0 : Int32))
set_option maxRecDepth 20000 in
theorem iX6_tryOneMoreMove_X6 : ∀ w ∈ u_ws RX6 TX6 4, w ∈ wsX6_tryOneMoreMove := by decide +kernel
set_option maxRecDepth 20000 in
theorem kX6_tryOneMoreMove_1 : Cond.fieldLink RX6 18 "MaskHall$TriedWay" "canvas" "LMaskHall$Canvas;" ∈ wsX6_tryOneMoreMove := by decide +kernel
set_option maxRecDepth 20000 in
theorem iX6_tryOneMoreMove_X0 : ∀ w ∈ u_ws RX0 TX0 5, w ∈ wsX6_tryOneMoreMove := by decide +kernel
set_option maxRecDepth 20000 in
theorem kX6_tryOneMoreMove_3 : Cond.fieldLink RX6 59 "MaskHall$Canvas" "kinds" "[I" ∈ wsX6_tryOneMoreMove := by decide +kernel
set_option maxRecDepth 20000 in
theorem kX6_tryOneMoreMove_4 : Cond.fieldLink RX6 55 "MaskHall$Canvas" "things" "[I" ∈ wsX6_tryOneMoreMove := by decide +kernel
set_option maxRecDepth 20000 in
theorem kX6_tryOneMoreMove_5 : Cond.fieldLink RX6 9 "MaskHall$TriedWay" "reached" "[J" ∈ wsX6_tryOneMoreMove := by decide +kernel
set_option maxRecDepth 20000 in
theorem kX6_tryOneMoreMove_6 : Cond.fieldLink RX6 15 "MaskHall$TriedWay" "before" "[J" ∈ wsX6_tryOneMoreMove := by decide +kernel
set_option maxRecDepth 20000 in
theorem kX6_tryOneMoreMove_7 : Cond.methodLink RX6 97 arraycopyName ∈ wsX6_tryOneMoreMove := by decide +kernel
set_option maxRecDepth 20000 in
theorem kX6_tryOneMoreMove_8 : Cond.native arraycopyName ∈ wsX6_tryOneMoreMove := by decide +kernel
set_option maxRecDepth 20000 in
theorem kX6_tryOneMoreMove_9 : Cond.static arraycopyName ∈ wsX6_tryOneMoreMove := by decide +kernel
set_option maxRecDepth 20000 in
theorem kX6_tryOneMoreMove_10 : Cond.initialized "java/lang/System" ∈ wsX6_tryOneMoreMove := by decide +kernel
set_option maxHeartbeats 1600000 in
set_option maxRecDepth 100000 in
theorem c_X6_tryOneMoreMove (l : Launch) (dC : Nat → ClassId) (dI : Nat → Nat → Nat) (cI cJ : ClassId) (tw re be ca ck cf cs ct sg lg : Nat) (sz : Nat) (fr : Nat → Int64) (fb : Nat → Int64) (ki : Nat → Int32) (fi : Nat → Int32) (se : Nat → Int32) (th : Nat → Int32) (size : Int32) (on : Int32) (il : Int32) (ba : Int32) (p1 : Int32) (hsz0 : 0 ≤ size.toInt) (hsz : size.toInt ≤ 12) (hin1 : vp_in p1 12) : Met l yX6_tryOneMoreMove wsX6_tryOneMoreMove ({ frames := 2, cells := 0, slots := 0, locals := 60 }) (va_Pc [.ref tw, .int p1] (zI (dC, dI) [(cI, .int), (cJ, .long)] [(tw, .inr (6, [.ref ca, .ref sg, .ref re, .ref be])), (re, .inl (cJ, 64, .inr (.inl fr))), (be, .inl (cJ, 64, .inr (.inl fb))), (ca, .inr (0, [.ref ck, .ref cf, .ref cs, .ref ct, .int size])), (ck, .inl (cI, 12, .inl ki)), (cf, .inl (cI, 12, .inl fi)), (cs, .inl (cI, 12, .inl se)), (ct, .inl (cI, 12, .inl th)), (sg, .inr (5, [.ref lg, .int on, .int il, .int ba]))] sz)) (va_Qv (fun (u : (Nat → Int64) × (Nat → Int64)) => u.1 = oX6_tryOneMoreMove_fr fr fb ki fi se th size on il ba p1 ∧ u.2 = oX6_tryOneMoreMove_fb fr fb ki fi se th size on il ba p1) (fun u => zO (dC, dI) [(cI, .int), (cJ, .long)] [(tw, .inr (6, [.ref ca, .ref sg, .ref re, .ref be])), (re, .inl (cJ, 64, .inr (.inl u.1))), (be, .inl (cJ, 64, .inr (.inl u.2))), (ca, .inr (0, [.ref ck, .ref cf, .ref cs, .ref ct, .int size])), (ck, .inl (cI, 12, .inl ki)), (cf, .inl (cI, 12, .inl fi)), (cs, .inl (cI, 12, .inl se)), (ct, .inl (cI, 12, .inl th)), (sg, .inr (5, [.ref lg, .int on, .int il, .int ba]))] (va_A [(tw, .inr (6, [.ref ca, .ref sg, .ref re, .ref be])), (re, .inl (cJ, 64, .inr (.inl fr))), (be, .inl (cJ, 64, .inr (.inl fb))), (ca, .inr (0, [.ref ck, .ref cf, .ref cs, .ref ct, .int size])), (ck, .inl (cI, 12, .inl ki)), (cf, .inl (cI, 12, .inl fi)), (cs, .inl (cI, 12, .inl se)), (ct, .inl (cI, 12, .inl th)), (sg, .inr (5, [.ref lg, .int on, .int il, .int ba]))] sz)) (va_A [(tw, .inr (6, [.ref ca, .ref sg, .ref re, .ref be])), (re, .inl (cJ, 64, .inr (.inl fr))), (be, .inl (cJ, 64, .inr (.inl fb))), (ca, .inr (0, [.ref ck, .ref cf, .ref cs, .ref ct, .int size])), (ck, .inl (cI, 12, .inl ki)), (cf, .inl (cI, 12, .inl fi)), (cs, .inl (cI, 12, .inl se)), (ct, .inl (cI, 12, .inl th)), (sg, .inr (5, [.ref lg, .int on, .int il, .int ba]))] sz)) 0 0 (va_A [(tw, .inr (6, [.ref ca, .ref sg, .ref re, .ref be])), (re, .inl (cJ, 64, .inr (.inl fr))), (be, .inl (cJ, 64, .inr (.inl fb))), (ca, .inr (0, [.ref ck, .ref cf, .ref cs, .ref ct, .int size])), (ck, .inl (cI, 12, .inl ki)), (cf, .inl (cI, 12, .inl fi)), (cs, .inl (cI, 12, .inl se)), (ct, .inl (cI, 12, .inl th)), (sg, .inr (5, [.ref lg, .int on, .int il, .int ba]))] sz) := by
  refine Met.ofW (cc := cX6_tryOneMoreMove) (maxL := 5) (ret := none) (by decide) rfl ?_
  intro p e s m args below meth c s₁ B hml hv
  obtain ⟨rfl, hsz, hP, hK, hD0, hG⟩ := hv
  have hx := B.exec
  have hb := B.bytes
  have hr := B.returns
  have hts := atoms_spec (ws := wsX6_tryOneMoreMove) B.pre
  have hown : s.vm.findClass RX6 = some m.cls := findClass_of_methodNamed B.named
  have hlocks := B.notSynchronized
  subst hsz
  have hD := hD0.self (sz := s.heap.size)
  generalize hAe : va_A [(tw, .inr (6, [.ref ca, .ref sg, .ref re, .ref be])), (re, .inl (cJ, 64, .inr (.inl fr))), (be, .inl (cJ, 64, .inr (.inl fb))), (ca, .inr (0, [.ref ck, .ref cf, .ref cs, .ref ct, .int size])), (ck, .inl (cI, 12, .inl ki)), (cf, .inl (cI, 12, .inl fi)), (cs, .inl (cI, 12, .inl se)), (ct, .inl (cI, 12, .inl th)), (sg, .inr (5, [.ref lg, .int on, .int il, .int ba]))] s.heap.size = A at hD hG ⊢
  have hA : ∀ q : Nat, s.heap.size ≤ q → A q := fun q h => by rw [← hAe]; exact Or.inr h
  have hS : va_S A s.heap s.heap [] := va_S.rf
  have hP : va_P (dC, dI) vwCl [(tw, .inr (6, [.ref ca, .ref sg, .ref re, .ref be])), (re, .inl (cJ, 64, .inr (.inl fr))), (be, .inl (cJ, 64, .inr (.inl fb))), (ca, .inr (0, [.ref ck, .ref cf, .ref cs, .ref ct, .int size])), (ck, .inl (cI, 12, .inl ki)), (cf, .inl (cI, 12, .inl fi)), (cs, .inl (cI, 12, .inl se)), (ct, .inl (cI, 12, .inl th)), (sg, .inr (5, [.ref lg, .int on, .int il, .int ba]))] s.heap := hP
  have hl := lv_entry ([.ref tw, .int p1]) (n := 5) (Nat.le_of_ble_eq_true rfl)
  rw [lg_entry_eq]
  generalize (lg_sl ([.ref tw, .int p1]) ++ List.replicate (5 - (lg_sl ([.ref tw, .int p1])).length) Slot.unset).toArray = ls at hl ⊢
  have hl : lv_has ls 5 [(0, .ref tw), (1, .int p1)] := hl
  refine lv_aload_n hx hb dX6_tryOneMoreMove_0 rfl (lv_at hl 0 rfl) ?_
  refine va_get (D := (dC, dI)) (ci := 6) (v := .ref ca) (C := RX6) (T := TX6) (N := 4) hx hb hts iX6_tryOneMoreMove_X6 hown hK hP 0 rfl rfl 0 (by decide) (hts _ kX6_tryOneMoreMove_1) (fun _ h9 => h9) rfl dX6_tryOneMoreMove_1 ?_
  refine va_get (D := (dC, dI)) (ci := 0) (v := .ref ck) (C := RX0) (T := TX0) (N := 5) hx hb hts iX6_tryOneMoreMove_X0 hown hK hP 3 rfl rfl 0 (by decide) (hts _ kX6_tryOneMoreMove_3) (fun _ h9 => h9) rfl dX6_tryOneMoreMove_4 ?_
  refine lv_iload_n hx hb dX6_tryOneMoreMove_7 rfl (lv_at hl 1 rfl) ?_
  refine va_iald hx hb hK hP 4 0 rfl rfl (i := p1) hin1 dX6_tryOneMoreMove_8 ?_
  refine lv_istore_n (lv' := [(2, .int (ki (p1).toNatClampNeg)), (0, .ref tw), (1, .int p1)]) hx hb dX6_tryOneMoreMove_9 rfl hl (by decide) rfl (fun ls hl => ?_)
  refine lv_aload_n hx hb dX6_tryOneMoreMove_10 rfl (lv_at hl 1 rfl) ?_
  refine va_get (D := (dC, dI)) (ci := 6) (v := .ref ca) (C := RX6) (T := TX6) (N := 4) hx hb hts iX6_tryOneMoreMove_X6 hown hK hP 0 rfl rfl 0 (by decide) (hts _ kX6_tryOneMoreMove_1) (fun _ h9 => h9) rfl dX6_tryOneMoreMove_11 ?_
  refine lv_iload_n hx hb dX6_tryOneMoreMove_14 rfl (lv_at hl 2 rfl) ?_
  refine lv_aload_n hx hb dX6_tryOneMoreMove_15 rfl (lv_at hl 1 rfl) ?_
  refine va_get (D := (dC, dI)) (ci := 6) (v := .ref ca) (C := RX6) (T := TX6) (N := 4) hx hb hts iX6_tryOneMoreMove_X6 hown hK hP 0 rfl rfl 0 (by decide) (hts _ kX6_tryOneMoreMove_1) (fun _ h9 => h9) rfl dX6_tryOneMoreMove_16 ?_
  refine va_get (D := (dC, dI)) (ci := 0) (v := .ref ct) (C := RX0) (T := TX0) (N := 5) hx hb hts iX6_tryOneMoreMove_X0 hown hK hP 3 rfl rfl 3 (by decide) (hts _ kX6_tryOneMoreMove_4) (fun _ h9 => h9) rfl dX6_tryOneMoreMove_19 ?_
  refine lv_iload_n hx hb dX6_tryOneMoreMove_22 rfl (lv_at hl 2 rfl) ?_
  refine va_iald hx hb hK hP 7 0 rfl rfl (i := p1) hin1 dX6_tryOneMoreMove_23 ?_
  refine zcSi (va_runV (As := [.int p1, .int (th (p1).toNatClampNeg)]) (rest := []) ⟨hx, hb, hml, hown, hts⟩ (c_X0_listenersFrom l dC dI cI cJ ca ck cf cs ct s.heap.size ki fi se th size p1 (th (p1).toNatClampNeg) (by assumption) (by assumption)) (cwV 2 hts gX6_tryOneMoreMove_X0_listenersFrom rfl rfl rfl (by decide +kernel) ⟨Nat.le_of_ble_eq_true rfl, Nat.le_of_ble_eq_true rfl⟩) (zpV hK hP hD hS hA hG [3, 4, 5, 6, 7] (by decide) rfl 0 3 rfl rfl) rfl rfl hl.1 rfl (lv_room (Nat.le_of_ble_eq_true rfl)) dX6_tryOneMoreMove_24 ⟨Nat.le_of_ble_eq_true rfl, Nat.le_of_ble_eq_true rfl⟩) ?_
  refine lv_istore_n (lv' := [(3, .int (rX0_listenersFrom ki fi se th size p1 (th (p1).toNatClampNeg))), (2, .int (ki (p1).toNatClampNeg)), (0, .ref tw), (1, .int p1)]) hx hb dX6_tryOneMoreMove_27 rfl hl (by decide) rfl (fun ls hl => ?_)
  refine lv_aload_n hx hb dX6_tryOneMoreMove_28 rfl (lv_at hl 2 rfl) ?_
  refine va_get (D := (dC, dI)) (ci := 6) (v := .ref re) (C := RX6) (T := TX6) (N := 4) hx hb hts iX6_tryOneMoreMove_X6 hown hK hP 0 rfl rfl 2 (by decide) (hts _ kX6_tryOneMoreMove_5) (fun _ h9 => h9) rfl dX6_tryOneMoreMove_29 ?_
  refine lv_iconst (v := 0) hx hb dX6_tryOneMoreMove_32 (by decide) ?_
  refine lv_aload_n hx hb dX6_tryOneMoreMove_33 rfl (lv_at hl 2 rfl) ?_
  refine va_get (D := (dC, dI)) (ci := 6) (v := .ref be) (C := RX6) (T := TX6) (N := 4) hx hb hts iX6_tryOneMoreMove_X6 hown hK hP 0 rfl rfl 3 (by decide) (hts _ kX6_tryOneMoreMove_6) (fun _ h9 => h9) rfl dX6_tryOneMoreMove_34 ?_
  refine lv_iconst (v := 0) hx hb dX6_tryOneMoreMove_37 (by decide) ?_
  refine lv_bipush (v := 64) hx hb dX6_tryOneMoreMove_38 (by decide) ?_
  refine va_copyl hx hb (hml.trans hl.1.symm) hown (hts _ kX6_tryOneMoreMove_7) (hts _ kX6_tryOneMoreMove_8) (hts _ kX6_tryOneMoreMove_9) (hts _ kX6_tryOneMoreMove_10) hK hP hD hS 1 2 1 1 rfl rfl rfl rfl rfl (sp := (0 : Int32)) (dp := (0 : Int32)) (n := (64 : Int32)) (by decide) (by decide) (by decide) (by decide) (by decide) (fun _ _ => rfl) (Nat.le_of_ble_eq_true rfl) (Nat.le_of_ble_eq_true rfl) dX6_tryOneMoreMove_40 (fun H locs hP hD hS => ?_)
  have hP : va_P (dC, dI) vwCl [(tw, .inr (6, [.ref ca, .ref sg, .ref re, .ref be])), (re, .inl (cJ, 64, .inr (.inl fr))), (be, .inl (cJ, 64, .inr (.inl (va_cpy fr fb ((0 : Int32)).toNatClampNeg ((0 : Int32)).toNatClampNeg ((64 : Int32)).toNatClampNeg)))), (ca, .inr (0, [.ref ck, .ref cf, .ref cs, .ref ct, .int size])), (ck, .inl (cI, 12, .inl ki)), (cf, .inl (cI, 12, .inl fi)), (cs, .inl (cI, 12, .inl se)), (ct, .inl (cI, 12, .inl th)), (sg, .inr (5, [.ref lg, .int on, .int il, .int ba]))] H := hP
  have hD : va_D A [(tw, .inr (6, [.ref ca, .ref sg, .ref re, .ref be])), (re, .inl (cJ, 64, .inr (.inl fr))), (be, .inl (cJ, 64, .inr (.inl (va_cpy fr fb ((0 : Int32)).toNatClampNeg ((0 : Int32)).toNatClampNeg ((64 : Int32)).toNatClampNeg)))), (ca, .inr (0, [.ref ck, .ref cf, .ref cs, .ref ct, .int size])), (ck, .inl (cI, 12, .inl ki)), (cf, .inl (cI, 12, .inl fi)), (cs, .inl (cI, 12, .inl se)), (ct, .inl (cI, 12, .inl th)), (sg, .inr (5, [.ref lg, .int on, .int il, .int ba]))] := hD
  refine lv_iconst (v := 0) hx hb dX6_tryOneMoreMove_43 (by decide) ?_
  refine lv_istore (lv' := [(4, .int (0 : Int32)), (3, .int (rX0_listenersFrom ki fi se th size p1 (th (p1).toNatClampNeg))), (2, .int (ki (p1).toNatClampNeg)), (0, .ref tw), (1, .int p1)]) hx hb dX6_tryOneMoreMove_44 hl (by decide) rfl (fun ls hl => ?_)
  refine zNm (fun R9 Q9 hR9 hQ9 => ?_)
  have L46 : ∀ (n46 : Nat) (fr1 : Nat → Int64) (i : Int32), 0 ≤ i.toInt → ((64 : Int32)).toInt - i.toInt < n46 ∧ 0 < n46 → lX6_tryOneMoreMove_46_fr fr fb ki fi se th size on il ba p1 n46 fr1 i = oX6_tryOneMoreMove_fr fr fb ki fi se th size on il ba p1 → lX6_tryOneMoreMove_46_fb fr fb ki fi se th size on il ba p1 n46 fr1 i = oX6_tryOneMoreMove_fb fr fb ki fi se th size on il ba p1 → ∀ (H : Heap) (locs : List Loc) (ls : Array Slot), va_P (dC, dI) vwCl [(tw, .inr (6, [.ref ca, .ref sg, .ref re, .ref be])), (re, .inl (cJ, 64, .inr (.inl fr1))), (be, .inl (cJ, 64, .inr (.inl (va_cpy fr fb ((0 : Int32)).toNatClampNeg ((0 : Int32)).toNatClampNeg ((64 : Int32)).toNatClampNeg)))), (ca, .inr (0, [.ref ck, .ref cf, .ref cs, .ref ct, .int size])), (ck, .inl (cI, 12, .inl ki)), (cf, .inl (cI, 12, .inl fi)), (cs, .inl (cI, 12, .inl se)), (ct, .inl (cI, 12, .inl th)), (sg, .inr (5, [.ref lg, .int on, .int il, .int ba]))] H → va_D A [(tw, .inr (6, [.ref ca, .ref sg, .ref re, .ref be])), (re, .inl (cJ, 64, .inr (.inl fr1))), (be, .inl (cJ, 64, .inr (.inl (va_cpy fr fb ((0 : Int32)).toNatClampNeg ((0 : Int32)).toNatClampNeg ((64 : Int32)).toNatClampNeg)))), (ca, .inr (0, [.ref ck, .ref cf, .ref cs, .ref ct, .int size])), (ck, .inl (cI, 12, .inl ki)), (cf, .inl (cI, 12, .inl fi)), (cs, .inl (cI, 12, .inl se)), (ct, .inl (cI, 12, .inl th)), (sg, .inr (5, [.ref lg, .int on, .int il, .int ba]))] → va_S A s.heap H locs → lv_has ls 5 [(4, .int i), (3, .int (rX0_listenersFrom ki fi se th size p1 (th (p1).toNatClampNeg))), (2, .int (ki (p1).toNatClampNeg)), (0, .ref tw), (1, .int p1)] → W p l e R9 s m ([.ref tw, .int p1] : List Value).toArray below meth c H locs 0 0 Q9 (F0 m 46 ls []) := by
    subst hR9; subst hQ9
    intro n46
    induction n46 with
    | zero => intro fr1 i hi0 hi2; exact absurd hi2.2 (by decide)
    | succ n46 ih46 =>
      intro fr1 i hi0 hi2 hres46_fr hres46_fb H locs ls hP hD hS hl
      refine lv_iload hx hb dX6_tryOneMoreMove_46 (lv_at hl 0 rfl) ?_
      refine lv_bipush (v := 64) hx hb dX6_tryOneMoreMove_48 (by decide) ?_
      refine lv_icmp_ge (tgt := 122) hx hb dX6_tryOneMoreMove_50 (by decide) (fun c_1 => ?_) (fun c_1 => ?_)
      · exact W.vret hx hb hr (fun t ht hW => ⟨⟨(fr1, (va_cpy fr fb ((0 : Int32)).toNatClampNeg ((0 : Int32)).toNatClampNeg ((64 : Int32)).toNatClampNeg)), rfl, ⟨(by rw [← hres46_fr]; rw [lX6_tryOneMoreMove_46_fr]; rw [if_pos c_1]), (by rw [← hres46_fb]; rw [lX6_tryOneMoreMove_46_fb]; rw [if_pos c_1])⟩, (by rw [ht]; exact hP.sub [0, 1, 2, 3, 4, 5, 6, 7, 8] rfl), va_K.moved hW.alike hK, hD.sub [0, 1, 2, 3, 4, 5, 6, 7, 8] (by decide) rfl⟩, hS.F ht⟩) hS.2.2 dX6_tryOneMoreMove_122
      · refine lv_aload_n hx hb dX6_tryOneMoreMove_53 rfl (lv_at hl 3 rfl) ?_
        refine va_get (D := (dC, dI)) (ci := 6) (v := .ref be) (C := RX6) (T := TX6) (N := 4) hx hb hts iX6_tryOneMoreMove_X6 hown hK hP 0 rfl rfl 3 (by decide) (hts _ kX6_tryOneMoreMove_6) (fun _ h9 => h9) rfl dX6_tryOneMoreMove_54 ?_
        refine lv_iload hx hb dX6_tryOneMoreMove_57 (lv_at hl 0 rfl) ?_
        refine va_lald hx hb hK hP 2 1 rfl rfl (i := i) (by first | assumption | exact zin_a (by assumption) (by assumption) (by assumption) | exact zin_c (by assumption) (by assumption) (by assumption) | exact zin_c (by assumption) (by assumption) (by decide) | exact zin_e (by assumption) (by assumption) (by decide) | exact zin_e (by assumption) (by assumption) (by assumption) | exact zin_f (by assumption) (by assumption) (by assumption)) dX6_tryOneMoreMove_59 ?_
        refine lv_lconst (v := 0) hx hb dX6_tryOneMoreMove_60 (by decide) ?_
        refine W.lcmp hx hb dX6_tryOneMoreMove_61 ?_
        refine zNm (fun R9 Q9 hR9 hQ9 => ?_)
        have J116 : ∀ (v116_0 : (Nat → Int64)), v116_0 = (jX6_tryOneMoreMove_116_0 fr fb ki fi se th size on il ba p1 fr1 i) → ∀ (H : Heap) (locs : List Loc) (ls : Array Slot), va_P (dC, dI) vwCl [(tw, .inr (6, [.ref ca, .ref sg, .ref re, .ref be])), (re, .inl (cJ, 64, .inr (.inl v116_0))), (be, .inl (cJ, 64, .inr (.inl (va_cpy fr fb ((0 : Int32)).toNatClampNeg ((0 : Int32)).toNatClampNeg ((64 : Int32)).toNatClampNeg)))), (ca, .inr (0, [.ref ck, .ref cf, .ref cs, .ref ct, .int size])), (ck, .inl (cI, 12, .inl ki)), (cf, .inl (cI, 12, .inl fi)), (cs, .inl (cI, 12, .inl se)), (ct, .inl (cI, 12, .inl th)), (sg, .inr (5, [.ref lg, .int on, .int il, .int ba]))] H → va_D A [(tw, .inr (6, [.ref ca, .ref sg, .ref re, .ref be])), (re, .inl (cJ, 64, .inr (.inl v116_0))), (be, .inl (cJ, 64, .inr (.inl (va_cpy fr fb ((0 : Int32)).toNatClampNeg ((0 : Int32)).toNatClampNeg ((64 : Int32)).toNatClampNeg)))), (ca, .inr (0, [.ref ck, .ref cf, .ref cs, .ref ct, .int size])), (ck, .inl (cI, 12, .inl ki)), (cf, .inl (cI, 12, .inl fi)), (cs, .inl (cI, 12, .inl se)), (ct, .inl (cI, 12, .inl th)), (sg, .inr (5, [.ref lg, .int on, .int il, .int ba]))] → va_S A s.heap H locs → lv_has ls 5 [(4, .int i), (3, .int (rX0_listenersFrom ki fi se th size p1 (th (p1).toNatClampNeg))), (2, .int (ki (p1).toNatClampNeg)), (0, .ref tw), (1, .int p1)] → W p l e R9 s m ([.ref tw, .int p1] : List Value).toArray below meth c H locs 0 0 Q9 (F0 m 116 ls []) := by
          subst hR9; subst hQ9
          intro v116_0 hvv116_0
          rw [hvv116_0]; clear hvv116_0 v116_0
          intro H locs ls hP hD hS hl
          refine lv_iinc (v := (i + 1)) (lv' := [(4, .int (i + 1)), (3, .int (rX0_listenersFrom ki fi se th size p1 (th (p1).toNatClampNeg))), (2, .int (ki (p1).toNatClampNeg)), (0, .ref tw), (1, .int p1)]) hx hb dX6_tryOneMoreMove_116 hl (k := 0) rfl rfl (by decide) rfl (fun ls hl => ?_)
          refine lv_goto (tgt := 46) hx hb dX6_tryOneMoreMove_119 (by decide) ?_
          exact ih46 (jX6_tryOneMoreMove_116_0 fr fb ki fi se th size on il ba p1 fr1 i) (i + 1) (by have h9 := zInc (x := i) (y := (64 : Int32)) (by assumption); omega) (by have h9 := zInc (x := i) (y := (64 : Int32)) (by assumption); have h8 := zGo (x := i) (y := (64 : Int32)) (by assumption); omega) (by rw [← hres46_fr]; rw [lX6_tryOneMoreMove_46_fr]; rw [if_neg c_1]) (by rw [← hres46_fb]; rw [lX6_tryOneMoreMove_46_fb]; rw [if_neg c_1]) _ _ _ hP hD hS (lv_sub hl [0, 1, 2, 3, 4] rfl)
        subst hR9; subst hQ9
        refine lv_if_eq (tgt := 116) hx hb dX6_tryOneMoreMove_62 (by decide) (fun c_2 => ?_) (fun c_2 => ?_)
        · exact J116 fr1 (by unfold jX6_tryOneMoreMove_116_0; rw [if_pos c_2]) _ _ _ hP hD hS (lv_sub hl [0, 1, 2, 3, 4] rfl)
        · refine lv_aload_n hx hb dX6_tryOneMoreMove_65 rfl (lv_at hl 3 rfl) ?_
          refine lv_iload hx hb dX6_tryOneMoreMove_66 (lv_at hl 0 rfl) ?_
          refine zkV (wr := [(ca, .inr (0, [.ref ck, .ref cf, .ref cs, .ref ct, .int size])), (ck, .inl (cI, 12, .inl ki)), (cf, .inl (cI, 12, .inl fi)), (cs, .inl (cI, 12, .inl se)), (ct, .inl (cI, 12, .inl th))]) (u0 := ((oX6_tryEntersAndExits_fr fr1 (va_cpy fr fb ((0 : Int32)).toNatClampNeg ((0 : Int32)).toNatClampNeg ((64 : Int32)).toNatClampNeg) on il ba i))) (va_runV (As := [.int i]) (rest := []) ⟨hx, hb, hml, hown, hts⟩ (c_X6_tryEntersAndExits l dC dI cI cJ tw re be sg ca lg H.size fr1 (va_cpy fr fb ((0 : Int32)).toNatClampNeg ((0 : Int32)).toNatClampNeg ((64 : Int32)).toNatClampNeg) on il ba i (by first | assumption | exact zin_a (by assumption) (by assumption) (by assumption) | exact zin_c (by assumption) (by assumption) (by assumption) | exact zin_c (by assumption) (by assumption) (by decide) | exact zin_e (by assumption) (by assumption) (by decide) | exact zin_e (by assumption) (by assumption) (by assumption) | exact zin_f (by assumption) (by assumption) (by assumption))) (cwV 1 hts gX6_tryOneMoreMove_X6_tryEntersAndExits rfl rfl rfl (by decide +kernel) ⟨Nat.le_of_ble_eq_true rfl, Nat.le_of_ble_eq_true rfl⟩) (zpV hK hP hD hS hA hG [0, 1, 2, 8] (by decide) rfl 6 0 rfl rfl) rfl rfl hl.1 rfl (lv_room (Nat.le_of_ble_eq_true rfl)) dX6_tryOneMoreMove_68 ⟨Nat.le_of_ble_eq_true rfl, Nat.le_of_ble_eq_true rfl⟩) (fun u h => h) hP hD hS hA [0, 1, 2, 8] [3, 4, 5, 6, 7] rfl rfl (by decide) (by decide) (fun H locs hP hD hS => ?_)
          try dsimp only [List.cons_append, List.nil_append] at hP hD
          have hP : va_P (dC, dI) vwCl [(ca, .inr (0, [.ref ck, .ref cf, .ref cs, .ref ct, .int size])), (ck, .inl (cI, 12, .inl ki)), (cf, .inl (cI, 12, .inl fi)), (cs, .inl (cI, 12, .inl se)), (ct, .inl (cI, 12, .inl th)), (tw, .inr (6, [.ref ca, .ref sg, .ref re, .ref be])), (re, .inl (cJ, 64, .inr (.inl (oX6_tryEntersAndExits_fr fr1 (va_cpy fr fb ((0 : Int32)).toNatClampNeg ((0 : Int32)).toNatClampNeg ((64 : Int32)).toNatClampNeg) on il ba i)))), (be, .inl (cJ, 64, .inr (.inl (va_cpy fr fb ((0 : Int32)).toNatClampNeg ((0 : Int32)).toNatClampNeg ((64 : Int32)).toNatClampNeg)))), (sg, .inr (5, [.ref lg, .int on, .int il, .int ba]))] H := hP
          have hD : va_D A [(ca, .inr (0, [.ref ck, .ref cf, .ref cs, .ref ct, .int size])), (ck, .inl (cI, 12, .inl ki)), (cf, .inl (cI, 12, .inl fi)), (cs, .inl (cI, 12, .inl se)), (ct, .inl (cI, 12, .inl th)), (tw, .inr (6, [.ref ca, .ref sg, .ref re, .ref be])), (re, .inl (cJ, 64, .inr (.inl (oX6_tryEntersAndExits_fr fr1 (va_cpy fr fb ((0 : Int32)).toNatClampNeg ((0 : Int32)).toNatClampNeg ((64 : Int32)).toNatClampNeg) on il ba i)))), (be, .inl (cJ, 64, .inr (.inl (va_cpy fr fb ((0 : Int32)).toNatClampNeg ((0 : Int32)).toNatClampNeg ((64 : Int32)).toNatClampNeg)))), (sg, .inr (5, [.ref lg, .int on, .int il, .int ba]))] := hD
          refine lv_iload_n hx hb dX6_tryOneMoreMove_71 rfl (lv_at hl 2 rfl) ?_
          refine lv_if_ne (tgt := 95) hx hb dX6_tryOneMoreMove_72 (by decide) (fun c_3 => ?_) (fun c_3 => ?_)
          · refine lv_iload_n hx hb dX6_tryOneMoreMove_95 rfl (lv_at hl 2 rfl) ?_
            refine lv_iconst (v := 1) hx hb dX6_tryOneMoreMove_96 (by decide) ?_
            refine lv_icmp_ne (tgt := 116) hx hb dX6_tryOneMoreMove_97 (by decide) (fun c_4 => ?_) (fun c_4 => ?_)
            · exact J116 (oX6_tryEntersAndExits_fr fr1 (va_cpy fr fb ((0 : Int32)).toNatClampNeg ((0 : Int32)).toNatClampNeg ((64 : Int32)).toNatClampNeg) on il ba i) (by unfold jX6_tryOneMoreMove_116_0; rw [if_neg c_2, if_neg c_3, if_neg c_4]) _ _ _ (hP.sub [5, 6, 7, 0, 1, 2, 3, 4, 8] rfl) (hD.sub [5, 6, 7, 0, 1, 2, 3, 4, 8] (by decide) rfl) hS (lv_sub hl [0, 1, 2, 3, 4] rfl)
            · refine lv_aload_n hx hb dX6_tryOneMoreMove_100 rfl (lv_at hl 3 rfl) ?_
              refine va_get (D := (dC, dI)) (ci := 6) (v := .ref re) (C := RX6) (T := TX6) (N := 4) hx hb hts iX6_tryOneMoreMove_X6 hown hK hP 5 rfl rfl 2 (by decide) (hts _ kX6_tryOneMoreMove_5) (fun _ h9 => h9) rfl dX6_tryOneMoreMove_101 ?_
              refine lv_iload hx hb dX6_tryOneMoreMove_104 (lv_at hl 0 rfl) ?_
              refine lv_dup2_11 hx hb dX6_tryOneMoreMove_106 rfl rfl ?_
              refine va_lald hx hb hK hP 6 1 rfl rfl (i := i) (by first | assumption | exact zin_a (by assumption) (by assumption) (by assumption) | exact zin_c (by assumption) (by assumption) (by assumption) | exact zin_c (by assumption) (by assumption) (by decide) | exact zin_e (by assumption) (by assumption) (by decide) | exact zin_e (by assumption) (by assumption) (by assumption) | exact zin_f (by assumption) (by assumption) (by assumption)) dX6_tryOneMoreMove_107 ?_
              refine lv_aload_n hx hb dX6_tryOneMoreMove_108 rfl (lv_at hl 3 rfl) ?_
              refine lv_iload hx hb dX6_tryOneMoreMove_109 (lv_at hl 0 rfl) ?_
              refine zcSl (va_runV (As := [.int i]) (rest := [.long ((oX6_tryEntersAndExits_fr fr1 (va_cpy fr fb ((0 : Int32)).toNatClampNeg ((0 : Int32)).toNatClampNeg ((64 : Int32)).toNatClampNeg) on il ba i) (i).toNatClampNeg), .int i, .ref re]) ⟨hx, hb, hml, hown, hts⟩ (c_X6_casesAfterGiving l dC dI cI cJ tw re be ca sg H.size (oX6_tryEntersAndExits_fr fr1 (va_cpy fr fb ((0 : Int32)).toNatClampNeg ((0 : Int32)).toNatClampNeg ((64 : Int32)).toNatClampNeg) on il ba i) (va_cpy fr fb ((0 : Int32)).toNatClampNeg ((0 : Int32)).toNatClampNeg ((64 : Int32)).toNatClampNeg) i (by first | assumption | exact zin_a (by assumption) (by assumption) (by assumption) | exact zin_c (by assumption) (by assumption) (by assumption) | exact zin_c (by assumption) (by assumption) (by decide) | exact zin_e (by assumption) (by assumption) (by decide) | exact zin_e (by assumption) (by assumption) (by assumption) | exact zin_f (by assumption) (by assumption) (by assumption))) (cwV 1 hts gX6_tryOneMoreMove_X6_casesAfterGiving rfl rfl rfl (by decide +kernel) ⟨Nat.le_of_ble_eq_true rfl, Nat.le_of_ble_eq_true rfl⟩) (zpV hK hP hD hS hA hG [5, 6, 7] (by decide) rfl 6 5 rfl rfl) rfl rfl hl.1 rfl (lv_room (Nat.le_of_ble_eq_true rfl)) dX6_tryOneMoreMove_111 ⟨Nat.le_of_ble_eq_true rfl, Nat.le_of_ble_eq_true rfl⟩) ?_
              refine lv_lor hx hb dX6_tryOneMoreMove_114 ?_
              refine va_last hx hb hK hP hD hS 6 1 rfl rfl (i := i) (x := (((oX6_tryEntersAndExits_fr fr1 (va_cpy fr fb ((0 : Int32)).toNatClampNeg ((0 : Int32)).toNatClampNeg ((64 : Int32)).toNatClampNeg) on il ba i) (i).toNatClampNeg) ||| (rX6_casesAfterGiving (oX6_tryEntersAndExits_fr fr1 (va_cpy fr fb ((0 : Int32)).toNatClampNeg ((0 : Int32)).toNatClampNeg ((64 : Int32)).toNatClampNeg) on il ba i) (va_cpy fr fb ((0 : Int32)).toNatClampNeg ((0 : Int32)).toNatClampNeg ((64 : Int32)).toNatClampNeg) i))) (by first | assumption | exact zin_a (by assumption) (by assumption) (by assumption) | exact zin_c (by assumption) (by assumption) (by assumption) | exact zin_c (by assumption) (by assumption) (by decide) | exact zin_e (by assumption) (by assumption) (by decide) | exact zin_e (by assumption) (by assumption) (by assumption) | exact zin_f (by assumption) (by assumption) (by assumption)) dX6_tryOneMoreMove_115 (fun H locs hP hD hS => ?_)
              have hP : va_P (dC, dI) vwCl [(ca, .inr (0, [.ref ck, .ref cf, .ref cs, .ref ct, .int size])), (ck, .inl (cI, 12, .inl ki)), (cf, .inl (cI, 12, .inl fi)), (cs, .inl (cI, 12, .inl se)), (ct, .inl (cI, 12, .inl th)), (tw, .inr (6, [.ref ca, .ref sg, .ref re, .ref be])), (re, .inl (cJ, 64, .inr (.inl (vp_updL (oX6_tryEntersAndExits_fr fr1 (va_cpy fr fb ((0 : Int32)).toNatClampNeg ((0 : Int32)).toNatClampNeg ((64 : Int32)).toNatClampNeg) on il ba i) (i).toNatClampNeg (((oX6_tryEntersAndExits_fr fr1 (va_cpy fr fb ((0 : Int32)).toNatClampNeg ((0 : Int32)).toNatClampNeg ((64 : Int32)).toNatClampNeg) on il ba i) (i).toNatClampNeg) ||| (rX6_casesAfterGiving (oX6_tryEntersAndExits_fr fr1 (va_cpy fr fb ((0 : Int32)).toNatClampNeg ((0 : Int32)).toNatClampNeg ((64 : Int32)).toNatClampNeg) on il ba i) (va_cpy fr fb ((0 : Int32)).toNatClampNeg ((0 : Int32)).toNatClampNeg ((64 : Int32)).toNatClampNeg) i)))))), (be, .inl (cJ, 64, .inr (.inl (va_cpy fr fb ((0 : Int32)).toNatClampNeg ((0 : Int32)).toNatClampNeg ((64 : Int32)).toNatClampNeg)))), (sg, .inr (5, [.ref lg, .int on, .int il, .int ba]))] H := hP
              have hD : va_D A [(ca, .inr (0, [.ref ck, .ref cf, .ref cs, .ref ct, .int size])), (ck, .inl (cI, 12, .inl ki)), (cf, .inl (cI, 12, .inl fi)), (cs, .inl (cI, 12, .inl se)), (ct, .inl (cI, 12, .inl th)), (tw, .inr (6, [.ref ca, .ref sg, .ref re, .ref be])), (re, .inl (cJ, 64, .inr (.inl (vp_updL (oX6_tryEntersAndExits_fr fr1 (va_cpy fr fb ((0 : Int32)).toNatClampNeg ((0 : Int32)).toNatClampNeg ((64 : Int32)).toNatClampNeg) on il ba i) (i).toNatClampNeg (((oX6_tryEntersAndExits_fr fr1 (va_cpy fr fb ((0 : Int32)).toNatClampNeg ((0 : Int32)).toNatClampNeg ((64 : Int32)).toNatClampNeg) on il ba i) (i).toNatClampNeg) ||| (rX6_casesAfterGiving (oX6_tryEntersAndExits_fr fr1 (va_cpy fr fb ((0 : Int32)).toNatClampNeg ((0 : Int32)).toNatClampNeg ((64 : Int32)).toNatClampNeg) on il ba i) (va_cpy fr fb ((0 : Int32)).toNatClampNeg ((0 : Int32)).toNatClampNeg ((64 : Int32)).toNatClampNeg) i)))))), (be, .inl (cJ, 64, .inr (.inl (va_cpy fr fb ((0 : Int32)).toNatClampNeg ((0 : Int32)).toNatClampNeg ((64 : Int32)).toNatClampNeg)))), (sg, .inr (5, [.ref lg, .int on, .int il, .int ba]))] := hD
              exact J116 (vp_updL (oX6_tryEntersAndExits_fr fr1 (va_cpy fr fb ((0 : Int32)).toNatClampNeg ((0 : Int32)).toNatClampNeg ((64 : Int32)).toNatClampNeg) on il ba i) (i).toNatClampNeg (((oX6_tryEntersAndExits_fr fr1 (va_cpy fr fb ((0 : Int32)).toNatClampNeg ((0 : Int32)).toNatClampNeg ((64 : Int32)).toNatClampNeg) on il ba i) (i).toNatClampNeg) ||| (rX6_casesAfterGiving (oX6_tryEntersAndExits_fr fr1 (va_cpy fr fb ((0 : Int32)).toNatClampNeg ((0 : Int32)).toNatClampNeg ((64 : Int32)).toNatClampNeg) on il ba i) (va_cpy fr fb ((0 : Int32)).toNatClampNeg ((0 : Int32)).toNatClampNeg ((64 : Int32)).toNatClampNeg) i))) (by unfold jX6_tryOneMoreMove_116_0; rw [if_neg c_2, if_neg c_3, if_pos c_4]) _ _ _ (hP.sub [5, 6, 7, 0, 1, 2, 3, 4, 8] rfl) (hD.sub [5, 6, 7, 0, 1, 2, 3, 4, 8] (by decide) rfl) hS (lv_sub hl [0, 1, 2, 3, 4] rfl)
          · refine lv_aload_n hx hb dX6_tryOneMoreMove_75 rfl (lv_at hl 3 rfl) ?_
            refine va_get (D := (dC, dI)) (ci := 6) (v := .ref re) (C := RX6) (T := TX6) (N := 4) hx hb hts iX6_tryOneMoreMove_X6 hown hK hP 5 rfl rfl 2 (by decide) (hts _ kX6_tryOneMoreMove_5) (fun _ h9 => h9) rfl dX6_tryOneMoreMove_76 ?_
            refine lv_iload hx hb dX6_tryOneMoreMove_79 (lv_at hl 0 rfl) ?_
            refine lv_dup2_11 hx hb dX6_tryOneMoreMove_81 rfl rfl ?_
            refine va_lald hx hb hK hP 6 1 rfl rfl (i := i) (by first | assumption | exact zin_a (by assumption) (by assumption) (by assumption) | exact zin_c (by assumption) (by assumption) (by assumption) | exact zin_c (by assumption) (by assumption) (by decide) | exact zin_e (by assumption) (by assumption) (by decide) | exact zin_e (by assumption) (by assumption) (by assumption) | exact zin_f (by assumption) (by assumption) (by assumption)) dX6_tryOneMoreMove_82 ?_
            refine lv_aload_n hx hb dX6_tryOneMoreMove_83 rfl (lv_at hl 3 rfl) ?_
            refine lv_iload hx hb dX6_tryOneMoreMove_84 (lv_at hl 0 rfl) ?_
            refine lv_iload_n hx hb dX6_tryOneMoreMove_86 rfl (lv_at hl 1 rfl) ?_
            refine zcSl (va_runV (As := [.int i, .int (rX0_listenersFrom ki fi se th size p1 (th (p1).toNatClampNeg))]) (rest := [.long ((oX6_tryEntersAndExits_fr fr1 (va_cpy fr fb ((0 : Int32)).toNatClampNeg ((0 : Int32)).toNatClampNeg ((64 : Int32)).toNatClampNeg) on il ba i) (i).toNatClampNeg), .int i, .ref re]) ⟨hx, hb, hml, hown, hts⟩ (c_X6_casesAfterTelling l dC dI cI cJ tw re be ca sg H.size (oX6_tryEntersAndExits_fr fr1 (va_cpy fr fb ((0 : Int32)).toNatClampNeg ((0 : Int32)).toNatClampNeg ((64 : Int32)).toNatClampNeg) on il ba i) (va_cpy fr fb ((0 : Int32)).toNatClampNeg ((0 : Int32)).toNatClampNeg ((64 : Int32)).toNatClampNeg) i (rX0_listenersFrom ki fi se th size p1 (th (p1).toNatClampNeg)) (by first | assumption | exact zin_a (by assumption) (by assumption) (by assumption) | exact zin_c (by assumption) (by assumption) (by assumption) | exact zin_c (by assumption) (by assumption) (by decide) | exact zin_e (by assumption) (by assumption) (by decide) | exact zin_e (by assumption) (by assumption) (by assumption) | exact zin_f (by assumption) (by assumption) (by assumption))) (cwV 2 hts gX6_tryOneMoreMove_X6_casesAfterTelling rfl rfl rfl (by decide +kernel) ⟨Nat.le_of_ble_eq_true rfl, Nat.le_of_ble_eq_true rfl⟩) (zpV hK hP hD hS hA hG [5, 6, 7] (by decide) rfl 6 5 rfl rfl) rfl rfl hl.1 rfl (lv_room (Nat.le_of_ble_eq_true rfl)) dX6_tryOneMoreMove_87 ⟨Nat.le_of_ble_eq_true rfl, Nat.le_of_ble_eq_true rfl⟩) ?_
            refine lv_lor hx hb dX6_tryOneMoreMove_90 ?_
            refine va_last hx hb hK hP hD hS 6 1 rfl rfl (i := i) (x := (((oX6_tryEntersAndExits_fr fr1 (va_cpy fr fb ((0 : Int32)).toNatClampNeg ((0 : Int32)).toNatClampNeg ((64 : Int32)).toNatClampNeg) on il ba i) (i).toNatClampNeg) ||| (rX6_casesAfterTelling (oX6_tryEntersAndExits_fr fr1 (va_cpy fr fb ((0 : Int32)).toNatClampNeg ((0 : Int32)).toNatClampNeg ((64 : Int32)).toNatClampNeg) on il ba i) (va_cpy fr fb ((0 : Int32)).toNatClampNeg ((0 : Int32)).toNatClampNeg ((64 : Int32)).toNatClampNeg) i (rX0_listenersFrom ki fi se th size p1 (th (p1).toNatClampNeg))))) (by first | assumption | exact zin_a (by assumption) (by assumption) (by assumption) | exact zin_c (by assumption) (by assumption) (by assumption) | exact zin_c (by assumption) (by assumption) (by decide) | exact zin_e (by assumption) (by assumption) (by decide) | exact zin_e (by assumption) (by assumption) (by assumption) | exact zin_f (by assumption) (by assumption) (by assumption)) dX6_tryOneMoreMove_91 (fun H locs hP hD hS => ?_)
            have hP : va_P (dC, dI) vwCl [(ca, .inr (0, [.ref ck, .ref cf, .ref cs, .ref ct, .int size])), (ck, .inl (cI, 12, .inl ki)), (cf, .inl (cI, 12, .inl fi)), (cs, .inl (cI, 12, .inl se)), (ct, .inl (cI, 12, .inl th)), (tw, .inr (6, [.ref ca, .ref sg, .ref re, .ref be])), (re, .inl (cJ, 64, .inr (.inl (vp_updL (oX6_tryEntersAndExits_fr fr1 (va_cpy fr fb ((0 : Int32)).toNatClampNeg ((0 : Int32)).toNatClampNeg ((64 : Int32)).toNatClampNeg) on il ba i) (i).toNatClampNeg (((oX6_tryEntersAndExits_fr fr1 (va_cpy fr fb ((0 : Int32)).toNatClampNeg ((0 : Int32)).toNatClampNeg ((64 : Int32)).toNatClampNeg) on il ba i) (i).toNatClampNeg) ||| (rX6_casesAfterTelling (oX6_tryEntersAndExits_fr fr1 (va_cpy fr fb ((0 : Int32)).toNatClampNeg ((0 : Int32)).toNatClampNeg ((64 : Int32)).toNatClampNeg) on il ba i) (va_cpy fr fb ((0 : Int32)).toNatClampNeg ((0 : Int32)).toNatClampNeg ((64 : Int32)).toNatClampNeg) i (rX0_listenersFrom ki fi se th size p1 (th (p1).toNatClampNeg)))))))), (be, .inl (cJ, 64, .inr (.inl (va_cpy fr fb ((0 : Int32)).toNatClampNeg ((0 : Int32)).toNatClampNeg ((64 : Int32)).toNatClampNeg)))), (sg, .inr (5, [.ref lg, .int on, .int il, .int ba]))] H := hP
            have hD : va_D A [(ca, .inr (0, [.ref ck, .ref cf, .ref cs, .ref ct, .int size])), (ck, .inl (cI, 12, .inl ki)), (cf, .inl (cI, 12, .inl fi)), (cs, .inl (cI, 12, .inl se)), (ct, .inl (cI, 12, .inl th)), (tw, .inr (6, [.ref ca, .ref sg, .ref re, .ref be])), (re, .inl (cJ, 64, .inr (.inl (vp_updL (oX6_tryEntersAndExits_fr fr1 (va_cpy fr fb ((0 : Int32)).toNatClampNeg ((0 : Int32)).toNatClampNeg ((64 : Int32)).toNatClampNeg) on il ba i) (i).toNatClampNeg (((oX6_tryEntersAndExits_fr fr1 (va_cpy fr fb ((0 : Int32)).toNatClampNeg ((0 : Int32)).toNatClampNeg ((64 : Int32)).toNatClampNeg) on il ba i) (i).toNatClampNeg) ||| (rX6_casesAfterTelling (oX6_tryEntersAndExits_fr fr1 (va_cpy fr fb ((0 : Int32)).toNatClampNeg ((0 : Int32)).toNatClampNeg ((64 : Int32)).toNatClampNeg) on il ba i) (va_cpy fr fb ((0 : Int32)).toNatClampNeg ((0 : Int32)).toNatClampNeg ((64 : Int32)).toNatClampNeg) i (rX0_listenersFrom ki fi se th size p1 (th (p1).toNatClampNeg)))))))), (be, .inl (cJ, 64, .inr (.inl (va_cpy fr fb ((0 : Int32)).toNatClampNeg ((0 : Int32)).toNatClampNeg ((64 : Int32)).toNatClampNeg)))), (sg, .inr (5, [.ref lg, .int on, .int il, .int ba]))] := hD
            refine lv_goto (tgt := 116) hx hb dX6_tryOneMoreMove_92 (by decide) ?_
            exact J116 (vp_updL (oX6_tryEntersAndExits_fr fr1 (va_cpy fr fb ((0 : Int32)).toNatClampNeg ((0 : Int32)).toNatClampNeg ((64 : Int32)).toNatClampNeg) on il ba i) (i).toNatClampNeg (((oX6_tryEntersAndExits_fr fr1 (va_cpy fr fb ((0 : Int32)).toNatClampNeg ((0 : Int32)).toNatClampNeg ((64 : Int32)).toNatClampNeg) on il ba i) (i).toNatClampNeg) ||| (rX6_casesAfterTelling (oX6_tryEntersAndExits_fr fr1 (va_cpy fr fb ((0 : Int32)).toNatClampNeg ((0 : Int32)).toNatClampNeg ((64 : Int32)).toNatClampNeg) on il ba i) (va_cpy fr fb ((0 : Int32)).toNatClampNeg ((0 : Int32)).toNatClampNeg ((64 : Int32)).toNatClampNeg) i (rX0_listenersFrom ki fi se th size p1 (th (p1).toNatClampNeg))))) (by unfold jX6_tryOneMoreMove_116_0; rw [if_neg c_2, if_pos c_3]) _ _ _ (hP.sub [5, 6, 7, 0, 1, 2, 3, 4, 8] rfl) (hD.sub [5, 6, 7, 0, 1, 2, 3, 4, 8] (by decide) rfl) hS (lv_sub hl [0, 1, 2, 3, 4] rfl)
  subst hR9; subst hQ9
  exact L46 65 fr (0 : Int32) (by decide) (by decide) (by unfold oX6_tryOneMoreMove_fr; rfl) (by unfold oX6_tryOneMoreMove_fb; rfl) _ _ _ hP hD hS (lv_sub hl [0, 1, 2, 3, 4] rfl)

/-! X6_movesTo -/
def lX6_movesTo_49_r (fr : Nat → Int64) (fb : Nat → Int64) (ki : Nat → Int32) (fi : Nat → Int32) (se : Nat → Int32) (th : Nat → Int32) (size : Int32) (on : Int32) (il : Int32) (ba : Int32) (kn : Nat → Int32) (ho : Nat → Int32) (p1 : Int32) : Nat → (Nat → Int64) → (Nat → Int64) → (Int32) → (Int32)
  | 0, _, _, _ => 0
  | n49 + 1, fr1, fb1, i => (if (64 : Int32) < i then (-1 : Int32) else (if (rX6_isInReach fr1 fb1 ki fi se th size p1) = 0 then (lX6_movesTo_49_r fr fb ki fi se th size on il ba kn ho p1 n49 (oX6_tryOneMoreMove_fr fr1 fb1 ki fi se th size on il ba p1) (oX6_tryOneMoreMove_fb fr1 fb1 ki fi se th size on il ba p1) (i + 1)) else i))
def lX6_movesTo_49_fr (fr : Nat → Int64) (fb : Nat → Int64) (ki : Nat → Int32) (fi : Nat → Int32) (se : Nat → Int32) (th : Nat → Int32) (size : Int32) (on : Int32) (il : Int32) (ba : Int32) (kn : Nat → Int32) (ho : Nat → Int32) (p1 : Int32) : Nat → (Nat → Int64) → (Nat → Int64) → (Int32) → (Nat → Int64)
  | 0, _, _, _ => fun _ => 0
  | n49 + 1, fr1, fb1, i => (if (64 : Int32) < i then fr1 else (if (rX6_isInReach fr1 fb1 ki fi se th size p1) = 0 then (lX6_movesTo_49_fr fr fb ki fi se th size on il ba kn ho p1 n49 (oX6_tryOneMoreMove_fr fr1 fb1 ki fi se th size on il ba p1) (oX6_tryOneMoreMove_fb fr1 fb1 ki fi se th size on il ba p1) (i + 1)) else fr1))
def lX6_movesTo_49_fb (fr : Nat → Int64) (fb : Nat → Int64) (ki : Nat → Int32) (fi : Nat → Int32) (se : Nat → Int32) (th : Nat → Int32) (size : Int32) (on : Int32) (il : Int32) (ba : Int32) (kn : Nat → Int32) (ho : Nat → Int32) (p1 : Int32) : Nat → (Nat → Int64) → (Nat → Int64) → (Int32) → (Nat → Int64)
  | 0, _, _, _ => fun _ => 0
  | n49 + 1, fr1, fb1, i => (if (64 : Int32) < i then fb1 else (if (rX6_isInReach fr1 fb1 ki fi se th size p1) = 0 then (lX6_movesTo_49_fb fr fb ki fi se th size on il ba kn ho p1 n49 (oX6_tryOneMoreMove_fr fr1 fb1 ki fi se th size on il ba p1) (oX6_tryOneMoreMove_fb fr1 fb1 ki fi se th size on il ba p1) (i + 1)) else fb1))
def rX6_movesTo (fr : Nat → Int64) (fb : Nat → Int64) (ki : Nat → Int32) (fi : Nat → Int32) (se : Nat → Int32) (th : Nat → Int32) (size : Int32) (on : Int32) (il : Int32) (ba : Int32) (kn : Nat → Int32) (ho : Nat → Int32) (p1 : Int32) : Int32 := (if p1 < 0 then (-1 : Int32) else (if p1 < size then (lX6_movesTo_49_r fr fb ki fi se th size on il ba kn ho p1 66 (vp_updL (oJ7_fill_d0a16_f fr 64 (0 : Int64)) ((on &&& (63 : Int32))).toNatClampNeg ((1 : Int64) <<< (((rX6_caseNow ki fi se th size on il ba kn ho p1)).toInt64 &&& 63))) fb (1 : Int32)) else (-1 : Int32)))
def oX6_movesTo_fr (fr : Nat → Int64) (fb : Nat → Int64) (ki : Nat → Int32) (fi : Nat → Int32) (se : Nat → Int32) (th : Nat → Int32) (size : Int32) (on : Int32) (il : Int32) (ba : Int32) (kn : Nat → Int32) (ho : Nat → Int32) (p1 : Int32) : Nat → Int64 := (if p1 < 0 then fr else (if p1 < size then (lX6_movesTo_49_fr fr fb ki fi se th size on il ba kn ho p1 66 (vp_updL (oJ7_fill_d0a16_f fr 64 (0 : Int64)) ((on &&& (63 : Int32))).toNatClampNeg ((1 : Int64) <<< (((rX6_caseNow ki fi se th size on il ba kn ho p1)).toInt64 &&& 63))) fb (1 : Int32)) else fr))
def oX6_movesTo_fb (fr : Nat → Int64) (fb : Nat → Int64) (ki : Nat → Int32) (fi : Nat → Int32) (se : Nat → Int32) (th : Nat → Int32) (size : Int32) (on : Int32) (il : Int32) (ba : Int32) (kn : Nat → Int32) (ho : Nat → Int32) (p1 : Int32) : Nat → Int64 := (if p1 < 0 then fb else (if p1 < size then (lX6_movesTo_49_fb fr fb ki fi se th size on il ba kn ho p1 66 (vp_updL (oJ7_fill_d0a16_f fr 64 (0 : Int64)) ((on &&& (63 : Int32))).toNatClampNeg ((1 : Int64) <<< (((rX6_caseNow ki fi se th size on il ba kn ho p1)).toInt64 &&& 63))) fb (1 : Int32)) else fb))
set_option maxRecDepth 20000 in
theorem iX6_movesTo_X6 : ∀ w ∈ u_ws RX6 TX6 4, w ∈ wsX6_movesTo := by decide +kernel
set_option maxRecDepth 20000 in
theorem kX6_movesTo_1 : Cond.fieldLink RX6 18 "MaskHall$TriedWay" "canvas" "LMaskHall$Canvas;" ∈ wsX6_movesTo := by decide +kernel
set_option maxRecDepth 20000 in
theorem iX6_movesTo_X0 : ∀ w ∈ u_ws RX0 TX0 5, w ∈ wsX6_movesTo := by decide +kernel
set_option maxRecDepth 20000 in
theorem kX6_movesTo_3 : Cond.fieldLink RX6 26 "MaskHall$Canvas" "size" "I" ∈ wsX6_movesTo := by decide +kernel
set_option maxRecDepth 20000 in
theorem kX6_movesTo_4 : Cond.fieldLink RX6 9 "MaskHall$TriedWay" "reached" "[J" ∈ wsX6_movesTo := by decide +kernel
set_option maxRecDepth 20000 in
theorem kX6_movesTo_5 : Cond.fieldLink RX6 22 "MaskHall$TriedWay" "stage" "LMaskHall$Stage;" ∈ wsX6_movesTo := by decide +kernel
set_option maxRecDepth 20000 in
theorem iX6_movesTo_X5 : ∀ w ∈ u_ws RX5 TX5 4, w ∈ wsX6_movesTo := by decide +kernel
set_option maxRecDepth 20000 in
theorem kX6_movesTo_7 : Cond.fieldLink RX6 38 "MaskHall$Stage" "onMasks" "I" ∈ wsX6_movesTo := by decide +kernel
set_option maxHeartbeats 1060000 in
set_option maxRecDepth 100000 in
theorem c_X6_movesTo (l : Launch) (dC : Nat → ClassId) (dI : Nat → Nat → Nat) (cI cJ : ClassId) (tw re be ca ck cf cs ct sg lg kg hg : Nat) (sz : Nat) (fr : Nat → Int64) (fb : Nat → Int64) (ki : Nat → Int32) (fi : Nat → Int32) (se : Nat → Int32) (th : Nat → Int32) (size : Int32) (on : Int32) (il : Int32) (ba : Int32) (kn : Nat → Int32) (ho : Nat → Int32) (p1 : Int32) (hsz0 : 0 ≤ size.toInt) (hsz : size.toInt ≤ 12) (hTH : ∀ j : Nat, j < 12 → vp_in (th j) 4) (hFI : ∀ j : Nat, j < 12 → vp_in (fi j) 6) (hSE : ∀ j : Nat, j < 12 → vp_in (se j) 6) : Met l yX6_movesTo wsX6_movesTo ({ frames := 3, cells := 0, slots := 0, locals := 84 }) (va_Pc [.ref tw, .int p1] (zI (dC, dI) [(cI, .int), (cJ, .long)] [(tw, .inr (6, [.ref ca, .ref sg, .ref re, .ref be])), (re, .inl (cJ, 64, .inr (.inl fr))), (be, .inl (cJ, 64, .inr (.inl fb))), (ca, .inr (0, [.ref ck, .ref cf, .ref cs, .ref ct, .int size])), (ck, .inl (cI, 12, .inl ki)), (cf, .inl (cI, 12, .inl fi)), (cs, .inl (cI, 12, .inl se)), (ct, .inl (cI, 12, .inl th)), (sg, .inr (5, [.ref lg, .int on, .int il, .int ba])), (lg, .inr (2, [.ref kg, .ref hg])), (kg, .inl (cI, 4, .inl kn)), (hg, .inl (cI, 4, .inl ho))] sz)) (va_Qi (fun (r : Int32) (u : (Nat → Int64) × (Nat → Int64)) => r = rX6_movesTo fr fb ki fi se th size on il ba kn ho p1 ∧ u.1 = oX6_movesTo_fr fr fb ki fi se th size on il ba kn ho p1 ∧ u.2 = oX6_movesTo_fb fr fb ki fi se th size on il ba kn ho p1) (fun u => zO (dC, dI) [(cI, .int), (cJ, .long)] [(tw, .inr (6, [.ref ca, .ref sg, .ref re, .ref be])), (re, .inl (cJ, 64, .inr (.inl u.1))), (be, .inl (cJ, 64, .inr (.inl u.2))), (ca, .inr (0, [.ref ck, .ref cf, .ref cs, .ref ct, .int size])), (ck, .inl (cI, 12, .inl ki)), (cf, .inl (cI, 12, .inl fi)), (cs, .inl (cI, 12, .inl se)), (ct, .inl (cI, 12, .inl th)), (sg, .inr (5, [.ref lg, .int on, .int il, .int ba])), (lg, .inr (2, [.ref kg, .ref hg])), (kg, .inl (cI, 4, .inl kn)), (hg, .inl (cI, 4, .inl ho))] (va_A [(tw, .inr (6, [.ref ca, .ref sg, .ref re, .ref be])), (re, .inl (cJ, 64, .inr (.inl fr))), (be, .inl (cJ, 64, .inr (.inl fb))), (ca, .inr (0, [.ref ck, .ref cf, .ref cs, .ref ct, .int size])), (ck, .inl (cI, 12, .inl ki)), (cf, .inl (cI, 12, .inl fi)), (cs, .inl (cI, 12, .inl se)), (ct, .inl (cI, 12, .inl th)), (sg, .inr (5, [.ref lg, .int on, .int il, .int ba])), (lg, .inr (2, [.ref kg, .ref hg])), (kg, .inl (cI, 4, .inl kn)), (hg, .inl (cI, 4, .inl ho))] sz)) (va_A [(tw, .inr (6, [.ref ca, .ref sg, .ref re, .ref be])), (re, .inl (cJ, 64, .inr (.inl fr))), (be, .inl (cJ, 64, .inr (.inl fb))), (ca, .inr (0, [.ref ck, .ref cf, .ref cs, .ref ct, .int size])), (ck, .inl (cI, 12, .inl ki)), (cf, .inl (cI, 12, .inl fi)), (cs, .inl (cI, 12, .inl se)), (ct, .inl (cI, 12, .inl th)), (sg, .inr (5, [.ref lg, .int on, .int il, .int ba])), (lg, .inr (2, [.ref kg, .ref hg])), (kg, .inl (cI, 4, .inl kn)), (hg, .inl (cI, 4, .inl ho))] sz)) 0 0 (va_A [(tw, .inr (6, [.ref ca, .ref sg, .ref re, .ref be])), (re, .inl (cJ, 64, .inr (.inl fr))), (be, .inl (cJ, 64, .inr (.inl fb))), (ca, .inr (0, [.ref ck, .ref cf, .ref cs, .ref ct, .int size])), (ck, .inl (cI, 12, .inl ki)), (cf, .inl (cI, 12, .inl fi)), (cs, .inl (cI, 12, .inl se)), (ct, .inl (cI, 12, .inl th)), (sg, .inr (5, [.ref lg, .int on, .int il, .int ba])), (lg, .inr (2, [.ref kg, .ref hg])), (kg, .inl (cI, 4, .inl kn)), (hg, .inl (cI, 4, .inl ho))] sz) := by
  refine Met.ofW (cc := cX6_movesTo) (maxL := 3) (ret := (some .int)) (by decide) rfl ?_
  intro p e s m args below meth c s₁ B hml hv
  obtain ⟨rfl, hsz, hP, hK, hD0, hG⟩ := hv
  have hx := B.exec
  have hb := B.bytes
  have hr := B.returns
  have hts := atoms_spec (ws := wsX6_movesTo) B.pre
  have hown : s.vm.findClass RX6 = some m.cls := findClass_of_methodNamed B.named
  have hlocks := B.notSynchronized
  subst hsz
  have hD := hD0.self (sz := s.heap.size)
  generalize hAe : va_A [(tw, .inr (6, [.ref ca, .ref sg, .ref re, .ref be])), (re, .inl (cJ, 64, .inr (.inl fr))), (be, .inl (cJ, 64, .inr (.inl fb))), (ca, .inr (0, [.ref ck, .ref cf, .ref cs, .ref ct, .int size])), (ck, .inl (cI, 12, .inl ki)), (cf, .inl (cI, 12, .inl fi)), (cs, .inl (cI, 12, .inl se)), (ct, .inl (cI, 12, .inl th)), (sg, .inr (5, [.ref lg, .int on, .int il, .int ba])), (lg, .inr (2, [.ref kg, .ref hg])), (kg, .inl (cI, 4, .inl kn)), (hg, .inl (cI, 4, .inl ho))] s.heap.size = A at hD hG ⊢
  have hA : ∀ q : Nat, s.heap.size ≤ q → A q := fun q h => by rw [← hAe]; exact Or.inr h
  have hS : va_S A s.heap s.heap [] := va_S.rf
  have hP : va_P (dC, dI) vwCl [(tw, .inr (6, [.ref ca, .ref sg, .ref re, .ref be])), (re, .inl (cJ, 64, .inr (.inl fr))), (be, .inl (cJ, 64, .inr (.inl fb))), (ca, .inr (0, [.ref ck, .ref cf, .ref cs, .ref ct, .int size])), (ck, .inl (cI, 12, .inl ki)), (cf, .inl (cI, 12, .inl fi)), (cs, .inl (cI, 12, .inl se)), (ct, .inl (cI, 12, .inl th)), (sg, .inr (5, [.ref lg, .int on, .int il, .int ba])), (lg, .inr (2, [.ref kg, .ref hg])), (kg, .inl (cI, 4, .inl kn)), (hg, .inl (cI, 4, .inl ho))] s.heap := hP
  have hl := lv_entry ([.ref tw, .int p1]) (n := 3) (Nat.le_of_ble_eq_true rfl)
  rw [lg_entry_eq]
  generalize (lg_sl ([.ref tw, .int p1]) ++ List.replicate (3 - (lg_sl ([.ref tw, .int p1])).length) Slot.unset).toArray = ls at hl ⊢
  have hl : lv_has ls 3 [(0, .ref tw), (1, .int p1)] := hl
  refine lv_iload_n hx hb dX6_movesTo_0 rfl (lv_at hl 1 rfl) ?_
  refine lv_if_lt (tgt := 15) hx hb dX6_movesTo_1 (by decide) (fun c_1 => ?_) (fun c_1 => ?_)
  · refine lv_iconst (v := -1) hx hb dX6_movesTo_15 (by decide) ?_
    exact W.iret (v := (-1 : Int32)) hx hb hr (fun t ht hW => ⟨⟨(-1 : Int32), (fr, fb), rfl, ⟨(by unfold rX6_movesTo; rw [if_pos c_1]), (by unfold oX6_movesTo_fr; rw [if_pos c_1]), (by unfold oX6_movesTo_fb; rw [if_pos c_1])⟩, (by rw [ht]; exact hP.sub [0, 1, 2, 3, 4, 5, 6, 7, 8, 9, 10, 11] rfl), va_K.moved hW.alike hK, hD.sub [0, 1, 2, 3, 4, 5, 6, 7, 8, 9, 10, 11] (by decide) rfl⟩, hS.F ht⟩) hS.2.2 dX6_movesTo_16
  · refine lv_iload_n hx hb dX6_movesTo_4 rfl (lv_at hl 1 rfl) ?_
    refine lv_aload_n hx hb dX6_movesTo_5 rfl (lv_at hl 0 rfl) ?_
    refine va_get (D := (dC, dI)) (ci := 6) (v := .ref ca) (C := RX6) (T := TX6) (N := 4) hx hb hts iX6_movesTo_X6 hown hK hP 0 rfl rfl 0 (by decide) (hts _ kX6_movesTo_1) (fun _ h9 => h9) rfl dX6_movesTo_6 ?_
    refine va_get (D := (dC, dI)) (ci := 0) (v := .int size) (C := RX0) (T := TX0) (N := 5) hx hb hts iX6_movesTo_X0 hown hK hP 3 rfl rfl 4 (by decide) (hts _ kX6_movesTo_3) (fun _ h9 => h9) rfl dX6_movesTo_9 ?_
    refine lv_icmp_lt (tgt := 17) hx hb dX6_movesTo_12 (by decide) (fun c_2 => ?_) (fun c_2 => ?_)
    · refine lv_aload_n hx hb dX6_movesTo_17 rfl (lv_at hl 0 rfl) ?_
      refine va_get (D := (dC, dI)) (ci := 6) (v := .ref re) (C := RX6) (T := TX6) (N := 4) hx hb hts iX6_movesTo_X6 hown hK hP 0 rfl rfl 2 (by decide) (hts _ kX6_movesTo_4) (fun _ h9 => h9) rfl dX6_movesTo_18 ?_
      refine lv_lconst (v := 0) hx hb dX6_movesTo_21 (by decide) ?_
      refine zkV (wr := [(tw, .inr (6, [.ref ca, .ref sg, .ref re, .ref be])), (be, .inl (cJ, 64, .inr (.inl fb))), (ca, .inr (0, [.ref ck, .ref cf, .ref cs, .ref ct, .int size])), (ck, .inl (cI, 12, .inl ki)), (cf, .inl (cI, 12, .inl fi)), (cs, .inl (cI, 12, .inl se)), (ct, .inl (cI, 12, .inl th)), (sg, .inr (5, [.ref lg, .int on, .int il, .int ba])), (lg, .inr (2, [.ref kg, .ref hg])), (kg, .inl (cI, 4, .inl kn)), (hg, .inl (cI, 4, .inl ho))]) (u0 := ((oJ7_fill_d0a16_f fr 64 (0 : Int64)))) (va_runS (As := [.ref re, .long (0 : Int64)]) (rest := []) ⟨hx, hb, hml, hown, hts⟩ (c_J7_fill_d0a16 l dC dI cI cJ re s.heap.size fr 64 (0 : Int64) (by decide)) (va_cwS 2 hts gX6_movesTo_J7_fill_d0a16 rfl rfl rfl (by decide +kernel) ⟨Nat.le_of_ble_eq_true rfl, Nat.le_of_ble_eq_true rfl⟩) (zpS hK hP hD hS hA hG [1] (by decide) rfl) rfl rfl hl.1 rfl (lv_room (Nat.le_of_ble_eq_true rfl)) dX6_movesTo_22 ⟨Nat.le_of_ble_eq_true rfl, Nat.le_of_ble_eq_true rfl⟩) (fun u h => h) hP hD hS hA [1] [0, 2, 3, 4, 5, 6, 7, 8, 9, 10, 11] rfl rfl (by decide) (by decide) (fun H locs hP hD hS => ?_)
      try dsimp only [List.cons_append, List.nil_append] at hP hD
      have hP : va_P (dC, dI) vwCl [(tw, .inr (6, [.ref ca, .ref sg, .ref re, .ref be])), (be, .inl (cJ, 64, .inr (.inl fb))), (ca, .inr (0, [.ref ck, .ref cf, .ref cs, .ref ct, .int size])), (ck, .inl (cI, 12, .inl ki)), (cf, .inl (cI, 12, .inl fi)), (cs, .inl (cI, 12, .inl se)), (ct, .inl (cI, 12, .inl th)), (sg, .inr (5, [.ref lg, .int on, .int il, .int ba])), (lg, .inr (2, [.ref kg, .ref hg])), (kg, .inl (cI, 4, .inl kn)), (hg, .inl (cI, 4, .inl ho)), (re, .inl (cJ, 64, .inr (.inl (oJ7_fill_d0a16_f fr 64 (0 : Int64)))))] H := hP
      have hD : va_D A [(tw, .inr (6, [.ref ca, .ref sg, .ref re, .ref be])), (be, .inl (cJ, 64, .inr (.inl fb))), (ca, .inr (0, [.ref ck, .ref cf, .ref cs, .ref ct, .int size])), (ck, .inl (cI, 12, .inl ki)), (cf, .inl (cI, 12, .inl fi)), (cs, .inl (cI, 12, .inl se)), (ct, .inl (cI, 12, .inl th)), (sg, .inr (5, [.ref lg, .int on, .int il, .int ba])), (lg, .inr (2, [.ref kg, .ref hg])), (kg, .inl (cI, 4, .inl kn)), (hg, .inl (cI, 4, .inl ho)), (re, .inl (cJ, 64, .inr (.inl (oJ7_fill_d0a16_f fr 64 (0 : Int64)))))] := hD
      refine lv_aload_n hx hb dX6_movesTo_25 rfl (lv_at hl 0 rfl) ?_
      refine va_get (D := (dC, dI)) (ci := 6) (v := .ref re) (C := RX6) (T := TX6) (N := 4) hx hb hts iX6_movesTo_X6 hown hK hP 0 rfl rfl 2 (by decide) (hts _ kX6_movesTo_4) (fun _ h9 => h9) rfl dX6_movesTo_26 ?_
      refine lv_aload_n hx hb dX6_movesTo_29 rfl (lv_at hl 0 rfl) ?_
      refine va_get (D := (dC, dI)) (ci := 6) (v := .ref sg) (C := RX6) (T := TX6) (N := 4) hx hb hts iX6_movesTo_X6 hown hK hP 0 rfl rfl 1 (by decide) (hts _ kX6_movesTo_5) (fun _ h9 => h9) rfl dX6_movesTo_30 ?_
      refine va_get (D := (dC, dI)) (ci := 5) (v := .int on) (C := RX5) (T := TX5) (N := 4) hx hb hts iX6_movesTo_X5 hown hK hP 7 rfl rfl 1 (by decide) (hts _ kX6_movesTo_7) (fun _ h9 => h9) rfl dX6_movesTo_33 ?_
      refine lv_bipush (v := 63) hx hb dX6_movesTo_36 (by decide) ?_
      refine lv_iand hx hb dX6_movesTo_38 ?_
      refine lv_lconst (v := 1) hx hb dX6_movesTo_39 (by decide) ?_
      refine lv_aload_n hx hb dX6_movesTo_40 rfl (lv_at hl 0 rfl) ?_
      refine lv_iload_n hx hb dX6_movesTo_41 rfl (lv_at hl 1 rfl) ?_
      refine zcSi (va_runV (As := [.int p1]) (rest := [.long (1 : Int64), .int (on &&& (63 : Int32)), .ref re]) ⟨hx, hb, hml, hown, hts⟩ (c_X6_caseNow l dC dI cI cJ tw ca ck cf cs ct sg lg kg hg re be H.size ki fi se th size on il ba kn ho p1 (by first | assumption | exact zin_a (by assumption) (by assumption) (by assumption) | exact zin_c (by assumption) (by assumption) (by assumption) | exact zin_c (by assumption) (by assumption) (by decide) | exact zin_e (by assumption) (by assumption) (by decide) | exact zin_e (by assumption) (by assumption) (by assumption) | exact zin_f (by assumption) (by assumption) (by assumption)) (by assumption)) (cwV 1 hts gX6_movesTo_X6_caseNow rfl rfl rfl (by decide +kernel) ⟨Nat.le_of_ble_eq_true rfl, Nat.le_of_ble_eq_true rfl⟩) (zpV hK hP hD hS hA hG [0, 2, 3, 4, 5, 6, 7, 8, 9, 10] (by decide) rfl 6 0 rfl rfl) rfl rfl hl.1 rfl (lv_room (Nat.le_of_ble_eq_true rfl)) dX6_movesTo_42 ⟨Nat.le_of_ble_eq_true rfl, Nat.le_of_ble_eq_true rfl⟩) ?_
      refine lv_lshl hx hb dX6_movesTo_45 rfl ?_
      refine va_last hx hb hK hP hD hS 11 1 rfl rfl (i := (on &&& (63 : Int32))) (x := ((1 : Int64) <<< (((rX6_caseNow ki fi se th size on il ba kn ho p1)).toInt64 &&& 63))) (zAnd63 _) dX6_movesTo_46 (fun H locs hP hD hS => ?_)
      have hP : va_P (dC, dI) vwCl [(tw, .inr (6, [.ref ca, .ref sg, .ref re, .ref be])), (be, .inl (cJ, 64, .inr (.inl fb))), (ca, .inr (0, [.ref ck, .ref cf, .ref cs, .ref ct, .int size])), (ck, .inl (cI, 12, .inl ki)), (cf, .inl (cI, 12, .inl fi)), (cs, .inl (cI, 12, .inl se)), (ct, .inl (cI, 12, .inl th)), (sg, .inr (5, [.ref lg, .int on, .int il, .int ba])), (lg, .inr (2, [.ref kg, .ref hg])), (kg, .inl (cI, 4, .inl kn)), (hg, .inl (cI, 4, .inl ho)), (re, .inl (cJ, 64, .inr (.inl (vp_updL (oJ7_fill_d0a16_f fr 64 (0 : Int64)) ((on &&& (63 : Int32))).toNatClampNeg ((1 : Int64) <<< (((rX6_caseNow ki fi se th size on il ba kn ho p1)).toInt64 &&& 63))))))] H := hP
      have hD : va_D A [(tw, .inr (6, [.ref ca, .ref sg, .ref re, .ref be])), (be, .inl (cJ, 64, .inr (.inl fb))), (ca, .inr (0, [.ref ck, .ref cf, .ref cs, .ref ct, .int size])), (ck, .inl (cI, 12, .inl ki)), (cf, .inl (cI, 12, .inl fi)), (cs, .inl (cI, 12, .inl se)), (ct, .inl (cI, 12, .inl th)), (sg, .inr (5, [.ref lg, .int on, .int il, .int ba])), (lg, .inr (2, [.ref kg, .ref hg])), (kg, .inl (cI, 4, .inl kn)), (hg, .inl (cI, 4, .inl ho)), (re, .inl (cJ, 64, .inr (.inl (vp_updL (oJ7_fill_d0a16_f fr 64 (0 : Int64)) ((on &&& (63 : Int32))).toNatClampNeg ((1 : Int64) <<< (((rX6_caseNow ki fi se th size on il ba kn ho p1)).toInt64 &&& 63))))))] := hD
      refine lv_iconst (v := 1) hx hb dX6_movesTo_47 (by decide) ?_
      refine lv_istore_n (lv' := [(2, .int (1 : Int32)), (0, .ref tw), (1, .int p1)]) hx hb dX6_movesTo_48 rfl hl (by decide) rfl (fun ls hl => ?_)
      refine zNm (fun R9 Q9 hR9 hQ9 => ?_)
      have L49 : ∀ (n49 : Nat) (fr1 : Nat → Int64) (fb1 : Nat → Int64) (i : Int32), 0 ≤ i.toInt → ((65 : Int32)).toInt - i.toInt < n49 ∧ 0 < n49 → lX6_movesTo_49_r fr fb ki fi se th size on il ba kn ho p1 n49 fr1 fb1 i = rX6_movesTo fr fb ki fi se th size on il ba kn ho p1 → lX6_movesTo_49_fr fr fb ki fi se th size on il ba kn ho p1 n49 fr1 fb1 i = oX6_movesTo_fr fr fb ki fi se th size on il ba kn ho p1 → lX6_movesTo_49_fb fr fb ki fi se th size on il ba kn ho p1 n49 fr1 fb1 i = oX6_movesTo_fb fr fb ki fi se th size on il ba kn ho p1 → ∀ (H : Heap) (locs : List Loc) (ls : Array Slot), va_P (dC, dI) vwCl [(tw, .inr (6, [.ref ca, .ref sg, .ref re, .ref be])), (be, .inl (cJ, 64, .inr (.inl fb1))), (ca, .inr (0, [.ref ck, .ref cf, .ref cs, .ref ct, .int size])), (ck, .inl (cI, 12, .inl ki)), (cf, .inl (cI, 12, .inl fi)), (cs, .inl (cI, 12, .inl se)), (ct, .inl (cI, 12, .inl th)), (sg, .inr (5, [.ref lg, .int on, .int il, .int ba])), (lg, .inr (2, [.ref kg, .ref hg])), (kg, .inl (cI, 4, .inl kn)), (hg, .inl (cI, 4, .inl ho)), (re, .inl (cJ, 64, .inr (.inl fr1)))] H → va_D A [(tw, .inr (6, [.ref ca, .ref sg, .ref re, .ref be])), (be, .inl (cJ, 64, .inr (.inl fb1))), (ca, .inr (0, [.ref ck, .ref cf, .ref cs, .ref ct, .int size])), (ck, .inl (cI, 12, .inl ki)), (cf, .inl (cI, 12, .inl fi)), (cs, .inl (cI, 12, .inl se)), (ct, .inl (cI, 12, .inl th)), (sg, .inr (5, [.ref lg, .int on, .int il, .int ba])), (lg, .inr (2, [.ref kg, .ref hg])), (kg, .inl (cI, 4, .inl kn)), (hg, .inl (cI, 4, .inl ho)), (re, .inl (cJ, 64, .inr (.inl fr1)))] → va_S A s.heap H locs → lv_has ls 3 [(2, .int i), (0, .ref tw), (1, .int p1)] → W p l e R9 s m ([.ref tw, .int p1] : List Value).toArray below meth c H locs 0 0 Q9 (F0 m 49 ls []) := by
        subst hR9; subst hQ9
        intro n49
        induction n49 with
        | zero => intro fr1 fb1 i hi0 hi2; exact absurd hi2.2 (by decide)
        | succ n49 ih49 =>
          intro fr1 fb1 i hi0 hi2 hres49_r hres49_fr hres49_fb H locs ls hP hD hS hl
          refine lv_iload_n hx hb dX6_movesTo_49 rfl (lv_at hl 0 rfl) ?_
          refine lv_bipush (v := 64) hx hb dX6_movesTo_50 (by decide) ?_
          refine lv_icmp_gt (tgt := 76) hx hb dX6_movesTo_52 (by decide) (fun c_3 => ?_) (fun c_3 => ?_)
          · refine lv_iconst (v := -1) hx hb dX6_movesTo_76 (by decide) ?_
            exact W.iret (v := (-1 : Int32)) hx hb hr (fun t ht hW => ⟨⟨(-1 : Int32), (fr1, fb1), rfl, ⟨(by rw [← hres49_r]; rw [lX6_movesTo_49_r]; rw [if_pos c_3]), (by rw [← hres49_fr]; rw [lX6_movesTo_49_fr]; rw [if_pos c_3]), (by rw [← hres49_fb]; rw [lX6_movesTo_49_fb]; rw [if_pos c_3])⟩, (by rw [ht]; exact hP.sub [0, 11, 1, 2, 3, 4, 5, 6, 7, 8, 9, 10] rfl), va_K.moved hW.alike hK, hD.sub [0, 11, 1, 2, 3, 4, 5, 6, 7, 8, 9, 10] (by decide) rfl⟩, hS.F ht⟩) hS.2.2 dX6_movesTo_77
          · refine lv_aload_n hx hb dX6_movesTo_55 rfl (lv_at hl 1 rfl) ?_
            refine lv_iload_n hx hb dX6_movesTo_56 rfl (lv_at hl 2 rfl) ?_
            refine zcSi (va_runV (As := [.int p1]) (rest := []) ⟨hx, hb, hml, hown, hts⟩ (c_X6_isInReach l dC dI cI cJ tw re be ca ck cf cs ct sg H.size fr1 fb1 ki fi se th size p1 (by first | assumption | exact zin_a (by assumption) (by assumption) (by assumption) | exact zin_c (by assumption) (by assumption) (by assumption) | exact zin_c (by assumption) (by assumption) (by decide) | exact zin_e (by assumption) (by assumption) (by decide) | exact zin_e (by assumption) (by assumption) (by assumption) | exact zin_f (by assumption) (by assumption) (by assumption)) (by assumption) (by assumption)) (cwV 1 hts gX6_movesTo_X6_isInReach rfl rfl rfl (by decide +kernel) ⟨Nat.le_of_ble_eq_true rfl, Nat.le_of_ble_eq_true rfl⟩) (zpV hK hP hD hS hA hG [0, 11, 1, 2, 3, 4, 5, 6] (by decide) rfl 6 0 rfl rfl) rfl rfl hl.1 rfl (lv_room (Nat.le_of_ble_eq_true rfl)) dX6_movesTo_57 ⟨Nat.le_of_ble_eq_true rfl, Nat.le_of_ble_eq_true rfl⟩) ?_
            refine lv_if_eq (tgt := 65) hx hb dX6_movesTo_60 (by decide) (fun c_4 => ?_) (fun c_4 => ?_)
            · refine lv_aload_n hx hb dX6_movesTo_65 rfl (lv_at hl 1 rfl) ?_
              refine lv_iload_n hx hb dX6_movesTo_66 rfl (lv_at hl 2 rfl) ?_
              refine zkV (wr := [(lg, .inr (2, [.ref kg, .ref hg])), (kg, .inl (cI, 4, .inl kn)), (hg, .inl (cI, 4, .inl ho))]) (u0 := ((oX6_tryOneMoreMove_fr fr1 fb1 ki fi se th size on il ba p1), (oX6_tryOneMoreMove_fb fr1 fb1 ki fi se th size on il ba p1))) (va_runV (As := [.int p1]) (rest := []) ⟨hx, hb, hml, hown, hts⟩ (c_X6_tryOneMoreMove l dC dI cI cJ tw re be ca ck cf cs ct sg lg H.size fr1 fb1 ki fi se th size on il ba p1 (by assumption) (by assumption) (by first | assumption | exact zin_a (by assumption) (by assumption) (by assumption) | exact zin_c (by assumption) (by assumption) (by assumption) | exact zin_c (by assumption) (by assumption) (by decide) | exact zin_e (by assumption) (by assumption) (by decide) | exact zin_e (by assumption) (by assumption) (by assumption) | exact zin_f (by assumption) (by assumption) (by assumption))) (cwV 1 hts gX6_movesTo_X6_tryOneMoreMove rfl rfl rfl (by decide +kernel) ⟨Nat.le_of_ble_eq_true rfl, Nat.le_of_ble_eq_true rfl⟩) (zpV hK hP hD hS hA hG [0, 11, 1, 2, 3, 4, 5, 6, 7] (by decide) rfl 6 0 rfl rfl) rfl rfl hl.1 rfl (lv_room (Nat.le_of_ble_eq_true rfl)) dX6_movesTo_67 ⟨Nat.le_of_ble_eq_true rfl, Nat.le_of_ble_eq_true rfl⟩) (fun u h => zT2 h.1 h.2) hP hD hS hA [0, 11, 1, 2, 3, 4, 5, 6, 7] [8, 9, 10] rfl rfl (by decide) (by decide) (fun H locs hP hD hS => ?_)
              try dsimp only [List.cons_append, List.nil_append] at hP hD
              have hP : va_P (dC, dI) vwCl [(lg, .inr (2, [.ref kg, .ref hg])), (kg, .inl (cI, 4, .inl kn)), (hg, .inl (cI, 4, .inl ho)), (tw, .inr (6, [.ref ca, .ref sg, .ref re, .ref be])), (re, .inl (cJ, 64, .inr (.inl (oX6_tryOneMoreMove_fr fr1 fb1 ki fi se th size on il ba p1)))), (be, .inl (cJ, 64, .inr (.inl (oX6_tryOneMoreMove_fb fr1 fb1 ki fi se th size on il ba p1)))), (ca, .inr (0, [.ref ck, .ref cf, .ref cs, .ref ct, .int size])), (ck, .inl (cI, 12, .inl ki)), (cf, .inl (cI, 12, .inl fi)), (cs, .inl (cI, 12, .inl se)), (ct, .inl (cI, 12, .inl th)), (sg, .inr (5, [.ref lg, .int on, .int il, .int ba]))] H := hP
              have hD : va_D A [(lg, .inr (2, [.ref kg, .ref hg])), (kg, .inl (cI, 4, .inl kn)), (hg, .inl (cI, 4, .inl ho)), (tw, .inr (6, [.ref ca, .ref sg, .ref re, .ref be])), (re, .inl (cJ, 64, .inr (.inl (oX6_tryOneMoreMove_fr fr1 fb1 ki fi se th size on il ba p1)))), (be, .inl (cJ, 64, .inr (.inl (oX6_tryOneMoreMove_fb fr1 fb1 ki fi se th size on il ba p1)))), (ca, .inr (0, [.ref ck, .ref cf, .ref cs, .ref ct, .int size])), (ck, .inl (cI, 12, .inl ki)), (cf, .inl (cI, 12, .inl fi)), (cs, .inl (cI, 12, .inl se)), (ct, .inl (cI, 12, .inl th)), (sg, .inr (5, [.ref lg, .int on, .int il, .int ba]))] := hD
              refine lv_iinc (v := (i + 1)) (lv' := [(2, .int (i + 1)), (0, .ref tw), (1, .int p1)]) hx hb dX6_movesTo_70 hl (k := 0) rfl rfl (by decide) rfl (fun ls hl => ?_)
              refine lv_goto (tgt := 49) hx hb dX6_movesTo_73 (by decide) ?_
              exact ih49 (oX6_tryOneMoreMove_fr fr1 fb1 ki fi se th size on il ba p1) (oX6_tryOneMoreMove_fb fr1 fb1 ki fi se th size on il ba p1) (i + 1) (by have h9 := zInc2 (x := i) (y := (64 : Int32)) (by assumption) (by decide); omega) (by have h9 := zInc2 (x := i) (y := (64 : Int32)) (by assumption) (by decide); have h8 := zNlt (x := i) (y := (64 : Int32)) (by assumption); have h7 : ((65 : Int32)).toInt = 65 := rfl; have h6 : ((64 : Int32)).toInt = 64 := rfl; omega) (by rw [← hres49_r]; rw [lX6_movesTo_49_r]; rw [if_neg c_3, if_pos c_4]) (by rw [← hres49_fr]; rw [lX6_movesTo_49_fr]; rw [if_neg c_3, if_pos c_4]) (by rw [← hres49_fb]; rw [lX6_movesTo_49_fb]; rw [if_neg c_3, if_pos c_4]) _ _ _ (hP.sub [3, 5, 6, 7, 8, 9, 10, 11, 0, 1, 2, 4] rfl) (hD.sub [3, 5, 6, 7, 8, 9, 10, 11, 0, 1, 2, 4] (by decide) rfl) hS (lv_sub hl [0, 1, 2] rfl)
            · refine lv_iload_n hx hb dX6_movesTo_63 rfl (lv_at hl 0 rfl) ?_
              exact W.iret (v := i) hx hb hr (fun t ht hW => ⟨⟨i, (fr1, fb1), rfl, ⟨(by rw [← hres49_r]; rw [lX6_movesTo_49_r]; rw [if_neg c_3, if_neg c_4]), (by rw [← hres49_fr]; rw [lX6_movesTo_49_fr]; rw [if_neg c_3, if_neg c_4]), (by rw [← hres49_fb]; rw [lX6_movesTo_49_fb]; rw [if_neg c_3, if_neg c_4])⟩, (by rw [ht]; exact hP.sub [0, 11, 1, 2, 3, 4, 5, 6, 7, 8, 9, 10] rfl), va_K.moved hW.alike hK, hD.sub [0, 11, 1, 2, 3, 4, 5, 6, 7, 8, 9, 10] (by decide) rfl⟩, hS.F ht⟩) hS.2.2 dX6_movesTo_64
      subst hR9; subst hQ9
      exact L49 66 (vp_updL (oJ7_fill_d0a16_f fr 64 (0 : Int64)) ((on &&& (63 : Int32))).toNatClampNeg ((1 : Int64) <<< (((rX6_caseNow ki fi se th size on il ba kn ho p1)).toInt64 &&& 63))) fb (1 : Int32) (by decide) (by decide) (by unfold rX6_movesTo; rw [if_neg c_1, if_pos c_2]) (by unfold oX6_movesTo_fr; rw [if_neg c_1, if_pos c_2]) (by unfold oX6_movesTo_fb; rw [if_neg c_1, if_pos c_2]) _ _ _ hP hD hS (lv_sub hl [0, 1, 2] rfl)
    · refine lv_iconst (v := -1) hx hb dX6_movesTo_15 (by decide) ?_
      exact W.iret (v := (-1 : Int32)) hx hb hr (fun t ht hW => ⟨⟨(-1 : Int32), (fr, fb), rfl, ⟨(by unfold rX6_movesTo; rw [if_neg c_1, if_neg c_2]), (by unfold oX6_movesTo_fr; rw [if_neg c_1, if_neg c_2]), (by unfold oX6_movesTo_fb; rw [if_neg c_1, if_neg c_2])⟩, (by rw [ht]; exact hP.sub [0, 1, 2, 3, 4, 5, 6, 7, 8, 9, 10, 11] rfl), va_K.moved hW.alike hK, hD.sub [0, 1, 2, 3, 4, 5, 6, 7, 8, 9, 10, 11] (by decide) rfl⟩, hS.F ht⟩) hS.2.2 dX6_movesTo_16
