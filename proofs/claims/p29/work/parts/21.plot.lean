/-! X3_canHear -/
def rX3_canHear (ki : Nat → Int32) (fi : Nat → Int32) (se : Nat → Int32) (th : Nat → Int32) (size : Int32) (on : Int32) (il : Int32) (ba : Int32) (kT : Nat → Int32) (hT : Nat → Int32) (p1 : Int32) (p2 : Int32) (p3 : Int32) : Int32 := (if ((kT (p2).toNatClampNeg) &&& (il ^^^ (-1 : Int32))) = 0 then (0 : Int32) else (if (rX7_isIn (rX0_listenersFrom ki fi se th size (p3 + (1 : Int32)) p2) p1) = 0 then (1 : Int32) else (0 : Int32)))
set_option maxRecDepth 20000 in
theorem iX3_canHear_X3 : ∀ w ∈ u_ws RX3 TX3 3, w ∈ wsX3_canHear := by decide +kernel
set_option maxRecDepth 20000 in
theorem kX3_canHear_1 : Cond.fieldLink RX3 12 "MaskHall$Plot" "byThen" "LMaskHall$Lore;" ∈ wsX3_canHear := by decide +kernel
set_option maxRecDepth 20000 in
theorem iX3_canHear_X2 : ∀ w ∈ u_ws RX2 TX2 2, w ∈ wsX3_canHear := by decide +kernel
set_option maxRecDepth 20000 in
theorem kX3_canHear_3 : Cond.fieldLink RX3 91 "MaskHall$Lore" "knowers" "[I" ∈ wsX3_canHear := by decide +kernel
set_option maxRecDepth 20000 in
theorem kX3_canHear_4 : Cond.fieldLink RX3 22 "MaskHall$Plot" "stage" "LMaskHall$Stage;" ∈ wsX3_canHear := by decide +kernel
set_option maxRecDepth 20000 in
theorem iX3_canHear_X5 : ∀ w ∈ u_ws RX5 TX5 4, w ∈ wsX3_canHear := by decide +kernel
set_option maxRecDepth 20000 in
theorem kX3_canHear_6 : Cond.fieldLink RX3 51 "MaskHall$Stage" "illMasks" "I" ∈ wsX3_canHear := by decide +kernel
set_option maxRecDepth 20000 in
theorem kX3_canHear_7 : Cond.fieldLink RX3 18 "MaskHall$Plot" "canvas" "LMaskHall$Canvas;" ∈ wsX3_canHear := by decide +kernel
set_option maxRecDepth 20000 in
theorem kX3_canHear_8 : Cond.initialized RX7 ∈ wsX3_canHear := by decide +kernel
set_option maxRecDepth 20000 in
theorem kX3_canHear_9 : Cond.static yX7_isIn ∈ wsX3_canHear := by decide +kernel
set_option maxHeartbeats 760000 in
set_option maxRecDepth 100000 in
theorem c_X3_canHear (l : Launch) (dC : Nat → ClassId) (dI : Nat → Nat → Nat) (cI cJ : ClassId) (pl ca ck cf cs ct sg lt kt ht lg : Nat) (sz : Nat) (ki : Nat → Int32) (fi : Nat → Int32) (se : Nat → Int32) (th : Nat → Int32) (size : Int32) (on : Int32) (il : Int32) (ba : Int32) (kT : Nat → Int32) (hT : Nat → Int32) (p1 : Int32) (p2 : Int32) (p3 : Int32) (hsz0 : 0 ≤ size.toInt) (hsz : size.toInt ≤ 12) (hin2 : vp_in p2 4) : Met l yX3_canHear wsX3_canHear ({ frames := 2, cells := 0, slots := 0, locals := 45 }) (va_Pc [.ref pl, .int p1, .int p2, .int p3] (zI (dC, dI) [(cI, .int), (cJ, .long)] [(pl, .inr (3, [.ref ca, .ref sg, .ref lt])), (ca, .inr (0, [.ref ck, .ref cf, .ref cs, .ref ct, .int size])), (ck, .inl (cI, 12, .inl ki)), (cf, .inl (cI, 12, .inl fi)), (cs, .inl (cI, 12, .inl se)), (ct, .inl (cI, 12, .inl th)), (sg, .inr (5, [.ref lg, .int on, .int il, .int ba])), (lt, .inr (2, [.ref kt, .ref ht])), (kt, .inl (cI, 4, .inl kT)), (ht, .inl (cI, 4, .inl hT))] sz)) (vp_Si (fun r => r = rX3_canHear ki fi se th size on il ba kT hT p1 p2 p3)) 0 0 (fun _ => False) := by
  refine Met.ofW (cc := cX3_canHear) (maxL := 5) (ret := (some .boolean)) (by decide) rfl ?_
  intro p e s m args below meth c s₁ B hml hv
  obtain ⟨rfl, hsz, hP, hK, hD0, hG⟩ := hv
  have hx := B.exec
  have hb := B.bytes
  have hr := B.returns
  have hts := atoms_spec (ws := wsX3_canHear) B.pre
  have hown : s.vm.findClass RX3 = some m.cls := findClass_of_methodNamed B.named
  have hlocks := B.notSynchronized
  subst hsz
  have hD := hD0.self (sz := s.heap.size)
  generalize hAe : va_A [(pl, .inr (3, [.ref ca, .ref sg, .ref lt])), (ca, .inr (0, [.ref ck, .ref cf, .ref cs, .ref ct, .int size])), (ck, .inl (cI, 12, .inl ki)), (cf, .inl (cI, 12, .inl fi)), (cs, .inl (cI, 12, .inl se)), (ct, .inl (cI, 12, .inl th)), (sg, .inr (5, [.ref lg, .int on, .int il, .int ba])), (lt, .inr (2, [.ref kt, .ref ht])), (kt, .inl (cI, 4, .inl kT)), (ht, .inl (cI, 4, .inl hT))] s.heap.size = A at hD hG
  have hA : ∀ q : Nat, s.heap.size ≤ q → A q := fun q h => by rw [← hAe]; exact Or.inr h
  have hS : va_S A s.heap s.heap [] := va_S.rf
  have hP : va_P (dC, dI) vwCl [(pl, .inr (3, [.ref ca, .ref sg, .ref lt])), (ca, .inr (0, [.ref ck, .ref cf, .ref cs, .ref ct, .int size])), (ck, .inl (cI, 12, .inl ki)), (cf, .inl (cI, 12, .inl fi)), (cs, .inl (cI, 12, .inl se)), (ct, .inl (cI, 12, .inl th)), (sg, .inr (5, [.ref lg, .int on, .int il, .int ba])), (lt, .inr (2, [.ref kt, .ref ht])), (kt, .inl (cI, 4, .inl kT)), (ht, .inl (cI, 4, .inl hT))] s.heap := hP
  have hl := lv_entry ([.ref pl, .int p1, .int p2, .int p3]) (n := 5) (Nat.le_of_ble_eq_true rfl)
  rw [lg_entry_eq]
  generalize (lg_sl ([.ref pl, .int p1, .int p2, .int p3]) ++ List.replicate (5 - (lg_sl ([.ref pl, .int p1, .int p2, .int p3])).length) Slot.unset).toArray = ls at hl ⊢
  have hl : lv_has ls 5 [(0, .ref pl), (1, .int p1), (2, .int p2), (3, .int p3)] := hl
  refine lv_aload_n hx hb dX3_canHear_0 rfl (lv_at hl 0 rfl) ?_
  refine va_get (D := (dC, dI)) (ci := 3) (v := .ref lt) (C := RX3) (T := TX3) (N := 3) hx hb hts iX3_canHear_X3 hown hK hP 0 rfl rfl 2 (by decide) (hts _ kX3_canHear_1) (fun _ h9 => h9) rfl dX3_canHear_1 ?_
  refine va_get (D := (dC, dI)) (ci := 2) (v := .ref kt) (C := RX2) (T := TX2) (N := 2) hx hb hts iX3_canHear_X2 hown hK hP 7 rfl rfl 0 (by decide) (hts _ kX3_canHear_3) (fun _ h9 => h9) rfl dX3_canHear_4 ?_
  refine lv_iload_n hx hb dX3_canHear_7 rfl (lv_at hl 2 rfl) ?_
  refine va_iald hx hb hK hP 8 0 rfl rfl (i := p2) hin2 dX3_canHear_8 ?_
  refine lv_aload_n hx hb dX3_canHear_9 rfl (lv_at hl 0 rfl) ?_
  refine va_get (D := (dC, dI)) (ci := 3) (v := .ref sg) (C := RX3) (T := TX3) (N := 3) hx hb hts iX3_canHear_X3 hown hK hP 0 rfl rfl 1 (by decide) (hts _ kX3_canHear_4) (fun _ h9 => h9) rfl dX3_canHear_10 ?_
  refine va_get (D := (dC, dI)) (ci := 5) (v := .int il) (C := RX5) (T := TX5) (N := 4) hx hb hts iX3_canHear_X5 hown hK hP 6 rfl rfl 2 (by decide) (hts _ kX3_canHear_6) (fun _ h9 => h9) rfl dX3_canHear_13 ?_
  refine lv_iconst (v := -1) hx hb dX3_canHear_16 (by decide) ?_
  refine lv_ixor hx hb dX3_canHear_17 ?_
  refine lv_iand hx hb dX3_canHear_18 ?_
  refine lv_istore (lv' := [(4, .int ((kT (p2).toNatClampNeg) &&& (il ^^^ (-1 : Int32)))), (0, .ref pl), (1, .int p1), (2, .int p2), (3, .int p3)]) hx hb dX3_canHear_19 hl (by decide) rfl (fun ls hl => ?_)
  refine lv_iload hx hb dX3_canHear_21 (lv_at hl 0 rfl) ?_
  refine lv_if_eq (tgt := 48) hx hb dX3_canHear_23 (by decide) (fun c_1 => ?_) (fun c_1 => ?_)
  · refine lv_iconst (v := 0) hx hb dX3_canHear_48 (by decide) ?_
    exact W.zret (v := (0 : Int32)) hx hb hr (zNar (Or.inl rfl)) (fun t ht hW => ⟨_, rfl, (by unfold rX3_canHear; rw [if_pos c_1]), ht⟩) (fun q hq => absurd hq List.not_mem_nil) dX3_canHear_49
  · refine lv_aload_n hx hb dX3_canHear_26 rfl (lv_at hl 1 rfl) ?_
    refine va_get (D := (dC, dI)) (ci := 3) (v := .ref ca) (C := RX3) (T := TX3) (N := 3) hx hb hts iX3_canHear_X3 hown hK hP 0 rfl rfl 0 (by decide) (hts _ kX3_canHear_7) (fun _ h9 => h9) rfl dX3_canHear_27 ?_
    refine lv_iload_n hx hb dX3_canHear_30 rfl (lv_at hl 4 rfl) ?_
    refine lv_iconst (v := 1) hx hb dX3_canHear_31 (by decide) ?_
    refine lv_iadd hx hb dX3_canHear_32 ?_
    refine lv_iload_n hx hb dX3_canHear_33 rfl (lv_at hl 3 rfl) ?_
    refine zcSi (va_runV (As := [.int (p3 + (1 : Int32)), .int p2]) (rest := []) ⟨hx, hb, hml, hown, hts⟩ (c_X0_listenersFrom l dC dI cI cJ ca ck cf cs ct s.heap.size ki fi se th size (p3 + (1 : Int32)) p2 (by assumption) (by assumption)) (cwV 2 hts gX3_canHear_X0_listenersFrom rfl rfl rfl (by decide +kernel) ⟨Nat.le_of_ble_eq_true rfl, Nat.le_of_ble_eq_true rfl⟩) (zpV hK hP hD hS hA hG [1, 2, 3, 4, 5] (by decide) rfl 0 1 rfl rfl) rfl rfl hl.1 rfl (lv_room (Nat.le_of_ble_eq_true rfl)) dX3_canHear_34 ⟨Nat.le_of_ble_eq_true rfl, Nat.le_of_ble_eq_true rfl⟩) ?_
    refine lv_iload_n hx hb dX3_canHear_37 rfl (lv_at hl 2 rfl) ?_
    refine zcSi (va_runSN (As := [.int (rX0_listenersFrom ki fi se th size (p3 + (1 : Int32)) p2), .int p1]) (rest := []) ⟨hx, hb, hml, hown, hts⟩ (c_X7_isIn l dC dI cI cJ s.heap.size (rX0_listenersFrom ki fi se th size (p3 + (1 : Int32)) p2) p1 ) ⟨va_cnB 2 hts gX3_canHear_X7_isIn_n58 rfl rfl rfl (hG.1.1 _ (List.mem_of_getElem? (i := 3) rfl)) (hts _ kX3_canHear_8) (by decide +kernel) ⟨Nat.le_of_ble_eq_true rfl, Nat.le_of_ble_eq_true rfl⟩, (hts _ kX3_canHear_9), trivial⟩ (zpS hK hP hD hS hA hG [] (by decide) rfl) rfl rfl hl.1 rfl (lv_room (Nat.le_of_ble_eq_true rfl)) dX3_canHear_38 ⟨Nat.le_of_ble_eq_true rfl, Nat.le_of_ble_eq_true rfl⟩) ?_
    refine lv_if_ne (tgt := 48) hx hb dX3_canHear_41 (by decide) (fun c_2 => ?_) (fun c_2 => ?_)
    · refine lv_iconst (v := 0) hx hb dX3_canHear_48 (by decide) ?_
      exact W.zret (v := (0 : Int32)) hx hb hr (zNar (Or.inl rfl)) (fun t ht hW => ⟨_, rfl, (by unfold rX3_canHear; rw [if_neg c_1, if_neg c_2]), ht⟩) (fun q hq => absurd hq List.not_mem_nil) dX3_canHear_49
    · refine lv_iconst (v := 1) hx hb dX3_canHear_44 (by decide) ?_
      refine lv_goto (tgt := 49) hx hb dX3_canHear_45 (by decide) ?_
      exact W.zret (v := (1 : Int32)) hx hb hr (zNar (Or.inr rfl)) (fun t ht hW => ⟨_, rfl, (by unfold rX3_canHear; rw [if_neg c_1, if_pos c_2]), ht⟩) (fun q hq => absurd hq List.not_mem_nil) dX3_canHear_49
theorem brX3_canHear (ki : Nat → Int32) (fi : Nat → Int32) (se : Nat → Int32) (th : Nat → Int32) (size : Int32) (on : Int32) (il : Int32) (ba : Int32) (kT : Nat → Int32) (hT : Nat → Int32) (p1 : Int32) (p2 : Int32) (p3 : Int32) : rX3_canHear ki fi se th size on il ba kT hT p1 p2 p3 = 0 ∨ rX3_canHear ki fi se th size on il ba kT hT p1 p2 p3 = 1 := by
  unfold rX3_canHear
  repeat' split
  all_goals first | exact Or.inl rfl | exact Or.inr rfl | exact brX7_isIn _ _

/-! X3_canBeGiven -/
def rX3_canBeGiven (ki : Nat → Int32) (fi : Nat → Int32) (se : Nat → Int32) (th : Nat → Int32) (size : Int32) (on : Int32) (il : Int32) (ba : Int32) (kT : Nat → Int32) (hT : Nat → Int32) (p1 : Int32) : Int32 := (if (hT ((th (p1).toNatClampNeg)).toNatClampNeg) = (-1 : Int32) then (1 : Int32) else (if (rX7_isIn il (hT ((th (p1).toNatClampNeg)).toNatClampNeg)) = 0 then (1 : Int32) else (0 : Int32)))
def oX3_canBeGiven_hT (ki : Nat → Int32) (fi : Nat → Int32) (se : Nat → Int32) (th : Nat → Int32) (size : Int32) (on : Int32) (il : Int32) (ba : Int32) (kT : Nat → Int32) (hT : Nat → Int32) (p1 : Int32) : Nat → Int32 := (if (hT ((th (p1).toNatClampNeg)).toNatClampNeg) = (-1 : Int32) then (upd hT ((th (p1).toNatClampNeg)).toNatClampNeg (se (p1).toNatClampNeg)) else (if (rX7_isIn il (hT ((th (p1).toNatClampNeg)).toNatClampNeg)) = 0 then (upd hT ((th (p1).toNatClampNeg)).toNatClampNeg (se (p1).toNatClampNeg)) else hT))
set_option maxRecDepth 20000 in
theorem iX3_canBeGiven_X3 : ∀ w ∈ u_ws RX3 TX3 3, w ∈ wsX3_canBeGiven := by decide +kernel
set_option maxRecDepth 20000 in
theorem kX3_canBeGiven_1 : Cond.fieldLink RX3 18 "MaskHall$Plot" "canvas" "LMaskHall$Canvas;" ∈ wsX3_canBeGiven := by decide +kernel
set_option maxRecDepth 20000 in
theorem iX3_canBeGiven_X0 : ∀ w ∈ u_ws RX0 TX0 5, w ∈ wsX3_canBeGiven := by decide +kernel
set_option maxRecDepth 20000 in
theorem kX3_canBeGiven_3 : Cond.fieldLink RX3 74 "MaskHall$Canvas" "things" "[I" ∈ wsX3_canBeGiven := by decide +kernel
set_option maxRecDepth 20000 in
theorem kX3_canBeGiven_4 : Cond.fieldLink RX3 12 "MaskHall$Plot" "byThen" "LMaskHall$Lore;" ∈ wsX3_canBeGiven := by decide +kernel
set_option maxRecDepth 20000 in
theorem iX3_canBeGiven_X2 : ∀ w ∈ u_ws RX2 TX2 2, w ∈ wsX3_canBeGiven := by decide +kernel
set_option maxRecDepth 20000 in
theorem kX3_canBeGiven_6 : Cond.fieldLink RX3 97 "MaskHall$Lore" "holders" "[I" ∈ wsX3_canBeGiven := by decide +kernel
set_option maxRecDepth 20000 in
theorem kX3_canBeGiven_7 : Cond.fieldLink RX3 65 "MaskHall$Canvas" "seconds" "[I" ∈ wsX3_canBeGiven := by decide +kernel
set_option maxRecDepth 20000 in
theorem kX3_canBeGiven_8 : Cond.fieldLink RX3 22 "MaskHall$Plot" "stage" "LMaskHall$Stage;" ∈ wsX3_canBeGiven := by decide +kernel
set_option maxRecDepth 20000 in
theorem iX3_canBeGiven_X5 : ∀ w ∈ u_ws RX5 TX5 4, w ∈ wsX3_canBeGiven := by decide +kernel
set_option maxRecDepth 20000 in
theorem kX3_canBeGiven_10 : Cond.fieldLink RX3 51 "MaskHall$Stage" "illMasks" "I" ∈ wsX3_canBeGiven := by decide +kernel
set_option maxRecDepth 20000 in
theorem kX3_canBeGiven_11 : Cond.initialized RX7 ∈ wsX3_canBeGiven := by decide +kernel
set_option maxRecDepth 20000 in
theorem kX3_canBeGiven_12 : Cond.static yX7_isIn ∈ wsX3_canBeGiven := by decide +kernel
set_option maxHeartbeats 1080000 in
set_option maxRecDepth 100000 in
theorem c_X3_canBeGiven (l : Launch) (dC : Nat → ClassId) (dI : Nat → Nat → Nat) (cI cJ : ClassId) (pl ca ck cf cs ct sg lt kt ht lg : Nat) (sz : Nat) (ki : Nat → Int32) (fi : Nat → Int32) (se : Nat → Int32) (th : Nat → Int32) (size : Int32) (on : Int32) (il : Int32) (ba : Int32) (kT : Nat → Int32) (hT : Nat → Int32) (p1 : Int32) (hin1 : vp_in p1 12) (hth : vp_in (th (p1).toNatClampNeg) 4) : Met l yX3_canBeGiven wsX3_canBeGiven ({ frames := 1, cells := 0, slots := 0, locals := 21 }) (va_Pc [.ref pl, .int p1] (zI (dC, dI) [(cI, .int), (cJ, .long)] [(pl, .inr (3, [.ref ca, .ref sg, .ref lt])), (ca, .inr (0, [.ref ck, .ref cf, .ref cs, .ref ct, .int size])), (ck, .inl (cI, 12, .inl ki)), (cf, .inl (cI, 12, .inl fi)), (cs, .inl (cI, 12, .inl se)), (ct, .inl (cI, 12, .inl th)), (sg, .inr (5, [.ref lg, .int on, .int il, .int ba])), (lt, .inr (2, [.ref kt, .ref ht])), (kt, .inl (cI, 4, .inl kT)), (ht, .inl (cI, 4, .inl hT))] sz)) (va_Qi (fun (r : Int32) (u : (Nat → Int32)) => r = rX3_canBeGiven ki fi se th size on il ba kT hT p1 ∧ u = oX3_canBeGiven_hT ki fi se th size on il ba kT hT p1) (fun u => zO (dC, dI) [(cI, .int), (cJ, .long)] [(pl, .inr (3, [.ref ca, .ref sg, .ref lt])), (ca, .inr (0, [.ref ck, .ref cf, .ref cs, .ref ct, .int size])), (ck, .inl (cI, 12, .inl ki)), (cf, .inl (cI, 12, .inl fi)), (cs, .inl (cI, 12, .inl se)), (ct, .inl (cI, 12, .inl th)), (sg, .inr (5, [.ref lg, .int on, .int il, .int ba])), (lt, .inr (2, [.ref kt, .ref ht])), (kt, .inl (cI, 4, .inl kT)), (ht, .inl (cI, 4, .inl u))] (va_A [(pl, .inr (3, [.ref ca, .ref sg, .ref lt])), (ca, .inr (0, [.ref ck, .ref cf, .ref cs, .ref ct, .int size])), (ck, .inl (cI, 12, .inl ki)), (cf, .inl (cI, 12, .inl fi)), (cs, .inl (cI, 12, .inl se)), (ct, .inl (cI, 12, .inl th)), (sg, .inr (5, [.ref lg, .int on, .int il, .int ba])), (lt, .inr (2, [.ref kt, .ref ht])), (kt, .inl (cI, 4, .inl kT)), (ht, .inl (cI, 4, .inl hT))] sz)) (va_A [(pl, .inr (3, [.ref ca, .ref sg, .ref lt])), (ca, .inr (0, [.ref ck, .ref cf, .ref cs, .ref ct, .int size])), (ck, .inl (cI, 12, .inl ki)), (cf, .inl (cI, 12, .inl fi)), (cs, .inl (cI, 12, .inl se)), (ct, .inl (cI, 12, .inl th)), (sg, .inr (5, [.ref lg, .int on, .int il, .int ba])), (lt, .inr (2, [.ref kt, .ref ht])), (kt, .inl (cI, 4, .inl kT)), (ht, .inl (cI, 4, .inl hT))] sz)) 0 0 (va_A [(pl, .inr (3, [.ref ca, .ref sg, .ref lt])), (ca, .inr (0, [.ref ck, .ref cf, .ref cs, .ref ct, .int size])), (ck, .inl (cI, 12, .inl ki)), (cf, .inl (cI, 12, .inl fi)), (cs, .inl (cI, 12, .inl se)), (ct, .inl (cI, 12, .inl th)), (sg, .inr (5, [.ref lg, .int on, .int il, .int ba])), (lt, .inr (2, [.ref kt, .ref ht])), (kt, .inl (cI, 4, .inl kT)), (ht, .inl (cI, 4, .inl hT))] sz) := by
  refine Met.ofW (cc := cX3_canBeGiven) (maxL := 4) (ret := (some .boolean)) (by decide) rfl ?_
  intro p e s m args below meth c s₁ B hml hv
  obtain ⟨rfl, hsz, hP, hK, hD0, hG⟩ := hv
  have hx := B.exec
  have hb := B.bytes
  have hr := B.returns
  have hts := atoms_spec (ws := wsX3_canBeGiven) B.pre
  have hown : s.vm.findClass RX3 = some m.cls := findClass_of_methodNamed B.named
  have hlocks := B.notSynchronized
  subst hsz
  have hD := hD0.self (sz := s.heap.size)
  generalize hAe : va_A [(pl, .inr (3, [.ref ca, .ref sg, .ref lt])), (ca, .inr (0, [.ref ck, .ref cf, .ref cs, .ref ct, .int size])), (ck, .inl (cI, 12, .inl ki)), (cf, .inl (cI, 12, .inl fi)), (cs, .inl (cI, 12, .inl se)), (ct, .inl (cI, 12, .inl th)), (sg, .inr (5, [.ref lg, .int on, .int il, .int ba])), (lt, .inr (2, [.ref kt, .ref ht])), (kt, .inl (cI, 4, .inl kT)), (ht, .inl (cI, 4, .inl hT))] s.heap.size = A at hD hG ⊢
  have hA : ∀ q : Nat, s.heap.size ≤ q → A q := fun q h => by rw [← hAe]; exact Or.inr h
  have hS : va_S A s.heap s.heap [] := va_S.rf
  have hP : va_P (dC, dI) vwCl [(pl, .inr (3, [.ref ca, .ref sg, .ref lt])), (ca, .inr (0, [.ref ck, .ref cf, .ref cs, .ref ct, .int size])), (ck, .inl (cI, 12, .inl ki)), (cf, .inl (cI, 12, .inl fi)), (cs, .inl (cI, 12, .inl se)), (ct, .inl (cI, 12, .inl th)), (sg, .inr (5, [.ref lg, .int on, .int il, .int ba])), (lt, .inr (2, [.ref kt, .ref ht])), (kt, .inl (cI, 4, .inl kT)), (ht, .inl (cI, 4, .inl hT))] s.heap := hP
  have hl := lv_entry ([.ref pl, .int p1]) (n := 4) (Nat.le_of_ble_eq_true rfl)
  rw [lg_entry_eq]
  generalize (lg_sl ([.ref pl, .int p1]) ++ List.replicate (4 - (lg_sl ([.ref pl, .int p1])).length) Slot.unset).toArray = ls at hl ⊢
  have hl : lv_has ls 4 [(0, .ref pl), (1, .int p1)] := hl
  refine lv_aload_n hx hb dX3_canBeGiven_0 rfl (lv_at hl 0 rfl) ?_
  refine va_get (D := (dC, dI)) (ci := 3) (v := .ref ca) (C := RX3) (T := TX3) (N := 3) hx hb hts iX3_canBeGiven_X3 hown hK hP 0 rfl rfl 0 (by decide) (hts _ kX3_canBeGiven_1) (fun _ h9 => h9) rfl dX3_canBeGiven_1 ?_
  refine va_get (D := (dC, dI)) (ci := 0) (v := .ref ct) (C := RX0) (T := TX0) (N := 5) hx hb hts iX3_canBeGiven_X0 hown hK hP 1 rfl rfl 3 (by decide) (hts _ kX3_canBeGiven_3) (fun _ h9 => h9) rfl dX3_canBeGiven_4 ?_
  refine lv_iload_n hx hb dX3_canBeGiven_7 rfl (lv_at hl 1 rfl) ?_
  refine va_iald hx hb hK hP 5 0 rfl rfl (i := p1) hin1 dX3_canBeGiven_8 ?_
  refine lv_istore_n (lv' := [(2, .int (th (p1).toNatClampNeg)), (0, .ref pl), (1, .int p1)]) hx hb dX3_canBeGiven_9 rfl hl (by decide) rfl (fun ls hl => ?_)
  refine lv_aload_n hx hb dX3_canBeGiven_10 rfl (lv_at hl 1 rfl) ?_
  refine va_get (D := (dC, dI)) (ci := 3) (v := .ref lt) (C := RX3) (T := TX3) (N := 3) hx hb hts iX3_canBeGiven_X3 hown hK hP 0 rfl rfl 2 (by decide) (hts _ kX3_canBeGiven_4) (fun _ h9 => h9) rfl dX3_canBeGiven_11 ?_
  refine va_get (D := (dC, dI)) (ci := 2) (v := .ref ht) (C := RX2) (T := TX2) (N := 2) hx hb hts iX3_canBeGiven_X2 hown hK hP 7 rfl rfl 1 (by decide) (hts _ kX3_canBeGiven_6) (fun _ h9 => h9) rfl dX3_canBeGiven_14 ?_
  refine lv_iload_n hx hb dX3_canBeGiven_17 rfl (lv_at hl 0 rfl) ?_
  refine va_iald hx hb hK hP 9 0 rfl rfl (i := (th (p1).toNatClampNeg)) hth dX3_canBeGiven_18 ?_
  refine lv_istore_n (lv' := [(3, .int (hT ((th (p1).toNatClampNeg)).toNatClampNeg)), (2, .int (th (p1).toNatClampNeg)), (0, .ref pl), (1, .int p1)]) hx hb dX3_canBeGiven_19 rfl hl (by decide) rfl (fun ls hl => ?_)
  refine lv_iload_n hx hb dX3_canBeGiven_20 rfl (lv_at hl 0 rfl) ?_
  refine lv_iconst (v := -1) hx hb dX3_canBeGiven_21 (by decide) ?_
  refine lv_icmp_eq (tgt := 41) hx hb dX3_canBeGiven_22 (by decide) (fun c_1 => ?_) (fun c_1 => ?_)
  · refine lv_aload_n hx hb dX3_canBeGiven_41 rfl (lv_at hl 2 rfl) ?_
    refine va_get (D := (dC, dI)) (ci := 3) (v := .ref lt) (C := RX3) (T := TX3) (N := 3) hx hb hts iX3_canBeGiven_X3 hown hK hP 0 rfl rfl 2 (by decide) (hts _ kX3_canBeGiven_4) (fun _ h9 => h9) rfl dX3_canBeGiven_42 ?_
    refine va_get (D := (dC, dI)) (ci := 2) (v := .ref ht) (C := RX2) (T := TX2) (N := 2) hx hb hts iX3_canBeGiven_X2 hown hK hP 7 rfl rfl 1 (by decide) (hts _ kX3_canBeGiven_6) (fun _ h9 => h9) rfl dX3_canBeGiven_45 ?_
    refine lv_iload_n hx hb dX3_canBeGiven_48 rfl (lv_at hl 1 rfl) ?_
    refine lv_aload_n hx hb dX3_canBeGiven_49 rfl (lv_at hl 2 rfl) ?_
    refine va_get (D := (dC, dI)) (ci := 3) (v := .ref ca) (C := RX3) (T := TX3) (N := 3) hx hb hts iX3_canBeGiven_X3 hown hK hP 0 rfl rfl 0 (by decide) (hts _ kX3_canBeGiven_1) (fun _ h9 => h9) rfl dX3_canBeGiven_50 ?_
    refine va_get (D := (dC, dI)) (ci := 0) (v := .ref cs) (C := RX0) (T := TX0) (N := 5) hx hb hts iX3_canBeGiven_X0 hown hK hP 1 rfl rfl 2 (by decide) (hts _ kX3_canBeGiven_7) (fun _ h9 => h9) rfl dX3_canBeGiven_53 ?_
    refine lv_iload_n hx hb dX3_canBeGiven_56 rfl (lv_at hl 3 rfl) ?_
    refine va_iald hx hb hK hP 4 0 rfl rfl (i := p1) hin1 dX3_canBeGiven_57 ?_
    refine va_iast hx hb hK hP hD hS 9 0 rfl rfl (i := (th (p1).toNatClampNeg)) (x := (se (p1).toNatClampNeg)) hth dX3_canBeGiven_58 (fun H locs hP hD hS => ?_)
    have hP : va_P (dC, dI) vwCl [(pl, .inr (3, [.ref ca, .ref sg, .ref lt])), (ca, .inr (0, [.ref ck, .ref cf, .ref cs, .ref ct, .int size])), (ck, .inl (cI, 12, .inl ki)), (cf, .inl (cI, 12, .inl fi)), (cs, .inl (cI, 12, .inl se)), (ct, .inl (cI, 12, .inl th)), (sg, .inr (5, [.ref lg, .int on, .int il, .int ba])), (lt, .inr (2, [.ref kt, .ref ht])), (kt, .inl (cI, 4, .inl kT)), (ht, .inl (cI, 4, .inl (upd hT ((th (p1).toNatClampNeg)).toNatClampNeg (se (p1).toNatClampNeg))))] H := hP
    have hD : va_D A [(pl, .inr (3, [.ref ca, .ref sg, .ref lt])), (ca, .inr (0, [.ref ck, .ref cf, .ref cs, .ref ct, .int size])), (ck, .inl (cI, 12, .inl ki)), (cf, .inl (cI, 12, .inl fi)), (cs, .inl (cI, 12, .inl se)), (ct, .inl (cI, 12, .inl th)), (sg, .inr (5, [.ref lg, .int on, .int il, .int ba])), (lt, .inr (2, [.ref kt, .ref ht])), (kt, .inl (cI, 4, .inl kT)), (ht, .inl (cI, 4, .inl (upd hT ((th (p1).toNatClampNeg)).toNatClampNeg (se (p1).toNatClampNeg))))] := hD
    refine lv_iconst (v := 1) hx hb dX3_canBeGiven_59 (by decide) ?_
    exact W.zret (v := (1 : Int32)) hx hb hr (zNar (Or.inr rfl)) (fun t ht hW => ⟨⟨(1 : Int32), ((upd hT ((th (p1).toNatClampNeg)).toNatClampNeg (se (p1).toNatClampNeg))), rfl, ⟨(by unfold rX3_canBeGiven; rw [if_pos c_1]), (by unfold oX3_canBeGiven_hT; rw [if_pos c_1])⟩, (by rw [ht]; exact hP.sub [0, 1, 2, 3, 4, 5, 6, 7, 8, 9] rfl), va_K.moved hW.alike hK, hD.sub [0, 1, 2, 3, 4, 5, 6, 7, 8, 9] (by decide) rfl⟩, hS.F ht⟩) hS.2.2 dX3_canBeGiven_60
  · refine lv_aload_n hx hb dX3_canBeGiven_25 rfl (lv_at hl 2 rfl) ?_
    refine va_get (D := (dC, dI)) (ci := 3) (v := .ref sg) (C := RX3) (T := TX3) (N := 3) hx hb hts iX3_canBeGiven_X3 hown hK hP 0 rfl rfl 1 (by decide) (hts _ kX3_canBeGiven_8) (fun _ h9 => h9) rfl dX3_canBeGiven_26 ?_
    refine va_get (D := (dC, dI)) (ci := 5) (v := .int il) (C := RX5) (T := TX5) (N := 4) hx hb hts iX3_canBeGiven_X5 hown hK hP 6 rfl rfl 2 (by decide) (hts _ kX3_canBeGiven_10) (fun _ h9 => h9) rfl dX3_canBeGiven_29 ?_
    refine lv_iload_n hx hb dX3_canBeGiven_32 rfl (lv_at hl 0 rfl) ?_
    refine zcSi (va_runSN (As := [.int il, .int (hT ((th (p1).toNatClampNeg)).toNatClampNeg)]) (rest := []) ⟨hx, hb, hml, hown, hts⟩ (c_X7_isIn l dC dI cI cJ s.heap.size il (hT ((th (p1).toNatClampNeg)).toNatClampNeg) ) ⟨va_cnB 2 hts gX3_canBeGiven_X7_isIn_n58 rfl rfl rfl (hG.1.1 _ (List.mem_of_getElem? (i := 3) rfl)) (hts _ kX3_canBeGiven_11) (by decide +kernel) ⟨Nat.le_of_ble_eq_true rfl, Nat.le_of_ble_eq_true rfl⟩, (hts _ kX3_canBeGiven_12), trivial⟩ (zpS hK hP hD hS hA hG [] (by decide) rfl) rfl rfl hl.1 rfl (lv_room (Nat.le_of_ble_eq_true rfl)) dX3_canBeGiven_33 ⟨Nat.le_of_ble_eq_true rfl, Nat.le_of_ble_eq_true rfl⟩) ?_
    refine lv_if_eq (tgt := 41) hx hb dX3_canBeGiven_36 (by decide) (fun c_2 => ?_) (fun c_2 => ?_)
    · refine lv_aload_n hx hb dX3_canBeGiven_41 rfl (lv_at hl 2 rfl) ?_
      refine va_get (D := (dC, dI)) (ci := 3) (v := .ref lt) (C := RX3) (T := TX3) (N := 3) hx hb hts iX3_canBeGiven_X3 hown hK hP 0 rfl rfl 2 (by decide) (hts _ kX3_canBeGiven_4) (fun _ h9 => h9) rfl dX3_canBeGiven_42 ?_
      refine va_get (D := (dC, dI)) (ci := 2) (v := .ref ht) (C := RX2) (T := TX2) (N := 2) hx hb hts iX3_canBeGiven_X2 hown hK hP 7 rfl rfl 1 (by decide) (hts _ kX3_canBeGiven_6) (fun _ h9 => h9) rfl dX3_canBeGiven_45 ?_
      refine lv_iload_n hx hb dX3_canBeGiven_48 rfl (lv_at hl 1 rfl) ?_
      refine lv_aload_n hx hb dX3_canBeGiven_49 rfl (lv_at hl 2 rfl) ?_
      refine va_get (D := (dC, dI)) (ci := 3) (v := .ref ca) (C := RX3) (T := TX3) (N := 3) hx hb hts iX3_canBeGiven_X3 hown hK hP 0 rfl rfl 0 (by decide) (hts _ kX3_canBeGiven_1) (fun _ h9 => h9) rfl dX3_canBeGiven_50 ?_
      refine va_get (D := (dC, dI)) (ci := 0) (v := .ref cs) (C := RX0) (T := TX0) (N := 5) hx hb hts iX3_canBeGiven_X0 hown hK hP 1 rfl rfl 2 (by decide) (hts _ kX3_canBeGiven_7) (fun _ h9 => h9) rfl dX3_canBeGiven_53 ?_
      refine lv_iload_n hx hb dX3_canBeGiven_56 rfl (lv_at hl 3 rfl) ?_
      refine va_iald hx hb hK hP 4 0 rfl rfl (i := p1) hin1 dX3_canBeGiven_57 ?_
      refine va_iast hx hb hK hP hD hS 9 0 rfl rfl (i := (th (p1).toNatClampNeg)) (x := (se (p1).toNatClampNeg)) hth dX3_canBeGiven_58 (fun H locs hP hD hS => ?_)
      have hP : va_P (dC, dI) vwCl [(pl, .inr (3, [.ref ca, .ref sg, .ref lt])), (ca, .inr (0, [.ref ck, .ref cf, .ref cs, .ref ct, .int size])), (ck, .inl (cI, 12, .inl ki)), (cf, .inl (cI, 12, .inl fi)), (cs, .inl (cI, 12, .inl se)), (ct, .inl (cI, 12, .inl th)), (sg, .inr (5, [.ref lg, .int on, .int il, .int ba])), (lt, .inr (2, [.ref kt, .ref ht])), (kt, .inl (cI, 4, .inl kT)), (ht, .inl (cI, 4, .inl (upd hT ((th (p1).toNatClampNeg)).toNatClampNeg (se (p1).toNatClampNeg))))] H := hP
      have hD : va_D A [(pl, .inr (3, [.ref ca, .ref sg, .ref lt])), (ca, .inr (0, [.ref ck, .ref cf, .ref cs, .ref ct, .int size])), (ck, .inl (cI, 12, .inl ki)), (cf, .inl (cI, 12, .inl fi)), (cs, .inl (cI, 12, .inl se)), (ct, .inl (cI, 12, .inl th)), (sg, .inr (5, [.ref lg, .int on, .int il, .int ba])), (lt, .inr (2, [.ref kt, .ref ht])), (kt, .inl (cI, 4, .inl kT)), (ht, .inl (cI, 4, .inl (upd hT ((th (p1).toNatClampNeg)).toNatClampNeg (se (p1).toNatClampNeg))))] := hD
      refine lv_iconst (v := 1) hx hb dX3_canBeGiven_59 (by decide) ?_
      exact W.zret (v := (1 : Int32)) hx hb hr (zNar (Or.inr rfl)) (fun t ht hW => ⟨⟨(1 : Int32), ((upd hT ((th (p1).toNatClampNeg)).toNatClampNeg (se (p1).toNatClampNeg))), rfl, ⟨(by unfold rX3_canBeGiven; rw [if_neg c_1, if_pos c_2]), (by unfold oX3_canBeGiven_hT; rw [if_neg c_1, if_pos c_2])⟩, (by rw [ht]; exact hP.sub [0, 1, 2, 3, 4, 5, 6, 7, 8, 9] rfl), va_K.moved hW.alike hK, hD.sub [0, 1, 2, 3, 4, 5, 6, 7, 8, 9] (by decide) rfl⟩, hS.F ht⟩) hS.2.2 dX3_canBeGiven_60
    · refine lv_iconst (v := 0) hx hb dX3_canBeGiven_39 (by decide) ?_
      exact W.zret (v := (0 : Int32)) hx hb hr (zNar (Or.inl rfl)) (fun t ht hW => ⟨⟨(0 : Int32), (hT), rfl, ⟨(by unfold rX3_canBeGiven; rw [if_neg c_1, if_neg c_2]), (by unfold oX3_canBeGiven_hT; rw [if_neg c_1, if_neg c_2])⟩, (by rw [ht]; exact hP.sub [0, 1, 2, 3, 4, 5, 6, 7, 8, 9] rfl), va_K.moved hW.alike hK, hD.sub [0, 1, 2, 3, 4, 5, 6, 7, 8, 9] (by decide) rfl⟩, hS.F ht⟩) hS.2.2 dX3_canBeGiven_40
theorem brX3_canBeGiven (ki : Nat → Int32) (fi : Nat → Int32) (se : Nat → Int32) (th : Nat → Int32) (size : Int32) (on : Int32) (il : Int32) (ba : Int32) (kT : Nat → Int32) (hT : Nat → Int32) (p1 : Int32) : rX3_canBeGiven ki fi se th size on il ba kT hT p1 = 0 ∨ rX3_canBeGiven ki fi se th size on il ba kT hT p1 = 1 := by
  unfold rX3_canBeGiven
  repeat' split
  all_goals first | exact Or.inl rfl | exact Or.inr rfl | exact brX7_isIn _ _

/-! X3_canBeTold -/
def rX3_canBeTold (ki : Nat → Int32) (fi : Nat → Int32) (se : Nat → Int32) (th : Nat → Int32) (size : Int32) (on : Int32) (il : Int32) (ba : Int32) (kT : Nat → Int32) (hT : Nat → Int32) (p1 : Int32) : Int32 := (if (rX7_isIn ba (th (p1).toNatClampNeg)) = 0 then (if (rX2_isKnower kT hT (se (p1).toNatClampNeg) (th (p1).toNatClampNeg)) = 0 then (if (rX2_isKnower kT hT (fi (p1).toNatClampNeg) (th (p1).toNatClampNeg)) = 0 then (if (rX3_canHear ki fi se th size on il ba kT hT (fi (p1).toNatClampNeg) (th (p1).toNatClampNeg) p1) = 0 then (0 : Int32) else (1 : Int32)) else (1 : Int32)) else (0 : Int32)) else (0 : Int32))
def oX3_canBeTold_kT (ki : Nat → Int32) (fi : Nat → Int32) (se : Nat → Int32) (th : Nat → Int32) (size : Int32) (on : Int32) (il : Int32) (ba : Int32) (kT : Nat → Int32) (hT : Nat → Int32) (p1 : Int32) : Nat → Int32 := (if (rX7_isIn ba (th (p1).toNatClampNeg)) = 0 then (if (rX2_isKnower kT hT (se (p1).toNatClampNeg) (th (p1).toNatClampNeg)) = 0 then (if (rX2_isKnower kT hT (fi (p1).toNatClampNeg) (th (p1).toNatClampNeg)) = 0 then (if (rX3_canHear ki fi se th size on il ba kT hT (fi (p1).toNatClampNeg) (th (p1).toNatClampNeg) p1) = 0 then kT else (oX2_learn_fk (oX2_learn_fk kT hT (fi (p1).toNatClampNeg) (th (p1).toNatClampNeg)) hT (se (p1).toNatClampNeg) (th (p1).toNatClampNeg))) else (oX2_learn_fk (oX2_learn_fk kT hT (fi (p1).toNatClampNeg) (th (p1).toNatClampNeg)) hT (se (p1).toNatClampNeg) (th (p1).toNatClampNeg))) else kT) else kT)
set_option maxRecDepth 20000 in
theorem iX3_canBeTold_X3 : ∀ w ∈ u_ws RX3 TX3 3, w ∈ wsX3_canBeTold := by decide +kernel
set_option maxRecDepth 20000 in
theorem kX3_canBeTold_1 : Cond.fieldLink RX3 18 "MaskHall$Plot" "canvas" "LMaskHall$Canvas;" ∈ wsX3_canBeTold := by decide +kernel
set_option maxRecDepth 20000 in
theorem iX3_canBeTold_X0 : ∀ w ∈ u_ws RX0 TX0 5, w ∈ wsX3_canBeTold := by decide +kernel
set_option maxRecDepth 20000 in
theorem kX3_canBeTold_3 : Cond.fieldLink RX3 54 "MaskHall$Canvas" "firsts" "[I" ∈ wsX3_canBeTold := by decide +kernel
set_option maxRecDepth 20000 in
theorem kX3_canBeTold_4 : Cond.fieldLink RX3 65 "MaskHall$Canvas" "seconds" "[I" ∈ wsX3_canBeTold := by decide +kernel
set_option maxRecDepth 20000 in
theorem kX3_canBeTold_5 : Cond.fieldLink RX3 74 "MaskHall$Canvas" "things" "[I" ∈ wsX3_canBeTold := by decide +kernel
set_option maxRecDepth 20000 in
theorem kX3_canBeTold_6 : Cond.fieldLink RX3 22 "MaskHall$Plot" "stage" "LMaskHall$Stage;" ∈ wsX3_canBeTold := by decide +kernel
set_option maxRecDepth 20000 in
theorem iX3_canBeTold_X5 : ∀ w ∈ u_ws RX5 TX5 4, w ∈ wsX3_canBeTold := by decide +kernel
set_option maxRecDepth 20000 in
theorem kX3_canBeTold_8 : Cond.fieldLink RX3 77 "MaskHall$Stage" "bannedSecrets" "I" ∈ wsX3_canBeTold := by decide +kernel
set_option maxRecDepth 20000 in
theorem kX3_canBeTold_9 : Cond.initialized RX7 ∈ wsX3_canBeTold := by decide +kernel
set_option maxRecDepth 20000 in
theorem kX3_canBeTold_10 : Cond.static yX7_isIn ∈ wsX3_canBeTold := by decide +kernel
set_option maxRecDepth 20000 in
theorem kX3_canBeTold_11 : Cond.fieldLink RX3 12 "MaskHall$Plot" "byThen" "LMaskHall$Lore;" ∈ wsX3_canBeTold := by decide +kernel
set_option maxHeartbeats 1540000 in
set_option maxRecDepth 100000 in
theorem c_X3_canBeTold (l : Launch) (dC : Nat → ClassId) (dI : Nat → Nat → Nat) (cI cJ : ClassId) (pl ca ck cf cs ct sg lt kt ht lg : Nat) (sz : Nat) (ki : Nat → Int32) (fi : Nat → Int32) (se : Nat → Int32) (th : Nat → Int32) (size : Int32) (on : Int32) (il : Int32) (ba : Int32) (kT : Nat → Int32) (hT : Nat → Int32) (p1 : Int32) (hsz0 : 0 ≤ size.toInt) (hsz : size.toInt ≤ 12) (hin1 : vp_in p1 12) (hth : vp_in (th (p1).toNatClampNeg) 4) : Met l yX3_canBeTold wsX3_canBeTold ({ frames := 3, cells := 0, slots := 0, locals := 69 }) (va_Pc [.ref pl, .int p1] (zI (dC, dI) [(cI, .int), (cJ, .long)] [(pl, .inr (3, [.ref ca, .ref sg, .ref lt])), (ca, .inr (0, [.ref ck, .ref cf, .ref cs, .ref ct, .int size])), (ck, .inl (cI, 12, .inl ki)), (cf, .inl (cI, 12, .inl fi)), (cs, .inl (cI, 12, .inl se)), (ct, .inl (cI, 12, .inl th)), (sg, .inr (5, [.ref lg, .int on, .int il, .int ba])), (lt, .inr (2, [.ref kt, .ref ht])), (kt, .inl (cI, 4, .inl kT)), (ht, .inl (cI, 4, .inl hT))] sz)) (va_Qi (fun (r : Int32) (u : (Nat → Int32)) => r = rX3_canBeTold ki fi se th size on il ba kT hT p1 ∧ u = oX3_canBeTold_kT ki fi se th size on il ba kT hT p1) (fun u => zO (dC, dI) [(cI, .int), (cJ, .long)] [(pl, .inr (3, [.ref ca, .ref sg, .ref lt])), (ca, .inr (0, [.ref ck, .ref cf, .ref cs, .ref ct, .int size])), (ck, .inl (cI, 12, .inl ki)), (cf, .inl (cI, 12, .inl fi)), (cs, .inl (cI, 12, .inl se)), (ct, .inl (cI, 12, .inl th)), (sg, .inr (5, [.ref lg, .int on, .int il, .int ba])), (lt, .inr (2, [.ref kt, .ref ht])), (kt, .inl (cI, 4, .inl u)), (ht, .inl (cI, 4, .inl hT))] (va_A [(pl, .inr (3, [.ref ca, .ref sg, .ref lt])), (ca, .inr (0, [.ref ck, .ref cf, .ref cs, .ref ct, .int size])), (ck, .inl (cI, 12, .inl ki)), (cf, .inl (cI, 12, .inl fi)), (cs, .inl (cI, 12, .inl se)), (ct, .inl (cI, 12, .inl th)), (sg, .inr (5, [.ref lg, .int on, .int il, .int ba])), (lt, .inr (2, [.ref kt, .ref ht])), (kt, .inl (cI, 4, .inl kT)), (ht, .inl (cI, 4, .inl hT))] sz)) (va_A [(pl, .inr (3, [.ref ca, .ref sg, .ref lt])), (ca, .inr (0, [.ref ck, .ref cf, .ref cs, .ref ct, .int size])), (ck, .inl (cI, 12, .inl ki)), (cf, .inl (cI, 12, .inl fi)), (cs, .inl (cI, 12, .inl se)), (ct, .inl (cI, 12, .inl th)), (sg, .inr (5, [.ref lg, .int on, .int il, .int ba])), (lt, .inr (2, [.ref kt, .ref ht])), (kt, .inl (cI, 4, .inl kT)), (ht, .inl (cI, 4, .inl hT))] sz)) 0 0 (va_A [(pl, .inr (3, [.ref ca, .ref sg, .ref lt])), (ca, .inr (0, [.ref ck, .ref cf, .ref cs, .ref ct, .int size])), (ck, .inl (cI, 12, .inl ki)), (cf, .inl (cI, 12, .inl fi)), (cs, .inl (cI, 12, .inl se)), (ct, .inl (cI, 12, .inl th)), (sg, .inr (5, [.ref lg, .int on, .int il, .int ba])), (lt, .inr (2, [.ref kt, .ref ht])), (kt, .inl (cI, 4, .inl kT)), (ht, .inl (cI, 4, .inl hT))] sz) := by
  refine Met.ofW (cc := cX3_canBeTold) (maxL := 5) (ret := (some .boolean)) (by decide) rfl ?_
  intro p e s m args below meth c s₁ B hml hv
  obtain ⟨rfl, hsz, hP, hK, hD0, hG⟩ := hv
  have hx := B.exec
  have hb := B.bytes
  have hr := B.returns
  have hts := atoms_spec (ws := wsX3_canBeTold) B.pre
  have hown : s.vm.findClass RX3 = some m.cls := findClass_of_methodNamed B.named
  have hlocks := B.notSynchronized
  subst hsz
  have hD := hD0.self (sz := s.heap.size)
  generalize hAe : va_A [(pl, .inr (3, [.ref ca, .ref sg, .ref lt])), (ca, .inr (0, [.ref ck, .ref cf, .ref cs, .ref ct, .int size])), (ck, .inl (cI, 12, .inl ki)), (cf, .inl (cI, 12, .inl fi)), (cs, .inl (cI, 12, .inl se)), (ct, .inl (cI, 12, .inl th)), (sg, .inr (5, [.ref lg, .int on, .int il, .int ba])), (lt, .inr (2, [.ref kt, .ref ht])), (kt, .inl (cI, 4, .inl kT)), (ht, .inl (cI, 4, .inl hT))] s.heap.size = A at hD hG ⊢
  have hA : ∀ q : Nat, s.heap.size ≤ q → A q := fun q h => by rw [← hAe]; exact Or.inr h
  have hS : va_S A s.heap s.heap [] := va_S.rf
  have hP : va_P (dC, dI) vwCl [(pl, .inr (3, [.ref ca, .ref sg, .ref lt])), (ca, .inr (0, [.ref ck, .ref cf, .ref cs, .ref ct, .int size])), (ck, .inl (cI, 12, .inl ki)), (cf, .inl (cI, 12, .inl fi)), (cs, .inl (cI, 12, .inl se)), (ct, .inl (cI, 12, .inl th)), (sg, .inr (5, [.ref lg, .int on, .int il, .int ba])), (lt, .inr (2, [.ref kt, .ref ht])), (kt, .inl (cI, 4, .inl kT)), (ht, .inl (cI, 4, .inl hT))] s.heap := hP
  have hl := lv_entry ([.ref pl, .int p1]) (n := 5) (Nat.le_of_ble_eq_true rfl)
  rw [lg_entry_eq]
  generalize (lg_sl ([.ref pl, .int p1]) ++ List.replicate (5 - (lg_sl ([.ref pl, .int p1])).length) Slot.unset).toArray = ls at hl ⊢
  have hl : lv_has ls 5 [(0, .ref pl), (1, .int p1)] := hl
  refine lv_aload_n hx hb dX3_canBeTold_0 rfl (lv_at hl 0 rfl) ?_
  refine va_get (D := (dC, dI)) (ci := 3) (v := .ref ca) (C := RX3) (T := TX3) (N := 3) hx hb hts iX3_canBeTold_X3 hown hK hP 0 rfl rfl 0 (by decide) (hts _ kX3_canBeTold_1) (fun _ h9 => h9) rfl dX3_canBeTold_1 ?_
  refine va_get (D := (dC, dI)) (ci := 0) (v := .ref cf) (C := RX0) (T := TX0) (N := 5) hx hb hts iX3_canBeTold_X0 hown hK hP 1 rfl rfl 1 (by decide) (hts _ kX3_canBeTold_3) (fun _ h9 => h9) rfl dX3_canBeTold_4 ?_
  refine lv_iload_n hx hb dX3_canBeTold_7 rfl (lv_at hl 1 rfl) ?_
  refine va_iald hx hb hK hP 3 0 rfl rfl (i := p1) hin1 dX3_canBeTold_8 ?_
  refine lv_istore_n (lv' := [(2, .int (fi (p1).toNatClampNeg)), (0, .ref pl), (1, .int p1)]) hx hb dX3_canBeTold_9 rfl hl (by decide) rfl (fun ls hl => ?_)
  refine lv_aload_n hx hb dX3_canBeTold_10 rfl (lv_at hl 1 rfl) ?_
  refine va_get (D := (dC, dI)) (ci := 3) (v := .ref ca) (C := RX3) (T := TX3) (N := 3) hx hb hts iX3_canBeTold_X3 hown hK hP 0 rfl rfl 0 (by decide) (hts _ kX3_canBeTold_1) (fun _ h9 => h9) rfl dX3_canBeTold_11 ?_
  refine va_get (D := (dC, dI)) (ci := 0) (v := .ref cs) (C := RX0) (T := TX0) (N := 5) hx hb hts iX3_canBeTold_X0 hown hK hP 1 rfl rfl 2 (by decide) (hts _ kX3_canBeTold_4) (fun _ h9 => h9) rfl dX3_canBeTold_14 ?_
  refine lv_iload_n hx hb dX3_canBeTold_17 rfl (lv_at hl 2 rfl) ?_
  refine va_iald hx hb hK hP 4 0 rfl rfl (i := p1) hin1 dX3_canBeTold_18 ?_
  refine lv_istore_n (lv' := [(3, .int (se (p1).toNatClampNeg)), (2, .int (fi (p1).toNatClampNeg)), (0, .ref pl), (1, .int p1)]) hx hb dX3_canBeTold_19 rfl hl (by decide) rfl (fun ls hl => ?_)
  refine lv_aload_n hx hb dX3_canBeTold_20 rfl (lv_at hl 2 rfl) ?_
  refine va_get (D := (dC, dI)) (ci := 3) (v := .ref ca) (C := RX3) (T := TX3) (N := 3) hx hb hts iX3_canBeTold_X3 hown hK hP 0 rfl rfl 0 (by decide) (hts _ kX3_canBeTold_1) (fun _ h9 => h9) rfl dX3_canBeTold_21 ?_
  refine va_get (D := (dC, dI)) (ci := 0) (v := .ref ct) (C := RX0) (T := TX0) (N := 5) hx hb hts iX3_canBeTold_X0 hown hK hP 1 rfl rfl 3 (by decide) (hts _ kX3_canBeTold_5) (fun _ h9 => h9) rfl dX3_canBeTold_24 ?_
  refine lv_iload_n hx hb dX3_canBeTold_27 rfl (lv_at hl 3 rfl) ?_
  refine va_iald hx hb hK hP 5 0 rfl rfl (i := p1) hin1 dX3_canBeTold_28 ?_
  refine lv_istore (lv' := [(4, .int (th (p1).toNatClampNeg)), (3, .int (se (p1).toNatClampNeg)), (2, .int (fi (p1).toNatClampNeg)), (0, .ref pl), (1, .int p1)]) hx hb dX3_canBeTold_29 hl (by decide) rfl (fun ls hl => ?_)
  refine lv_aload_n hx hb dX3_canBeTold_31 rfl (lv_at hl 3 rfl) ?_
  refine va_get (D := (dC, dI)) (ci := 3) (v := .ref sg) (C := RX3) (T := TX3) (N := 3) hx hb hts iX3_canBeTold_X3 hown hK hP 0 rfl rfl 1 (by decide) (hts _ kX3_canBeTold_6) (fun _ h9 => h9) rfl dX3_canBeTold_32 ?_
  refine va_get (D := (dC, dI)) (ci := 5) (v := .int ba) (C := RX5) (T := TX5) (N := 4) hx hb hts iX3_canBeTold_X5 hown hK hP 6 rfl rfl 3 (by decide) (hts _ kX3_canBeTold_8) (fun _ h9 => h9) rfl dX3_canBeTold_35 ?_
  refine lv_iload hx hb dX3_canBeTold_38 (lv_at hl 0 rfl) ?_
  refine zcSi (va_runSN (As := [.int ba, .int (th (p1).toNatClampNeg)]) (rest := []) ⟨hx, hb, hml, hown, hts⟩ (c_X7_isIn l dC dI cI cJ s.heap.size ba (th (p1).toNatClampNeg) ) ⟨va_cnB 2 hts gX3_canBeTold_X7_isIn_n58 rfl rfl rfl (hG.1.1 _ (List.mem_of_getElem? (i := 3) rfl)) (hts _ kX3_canBeTold_9) (by decide +kernel) ⟨Nat.le_of_ble_eq_true rfl, Nat.le_of_ble_eq_true rfl⟩, (hts _ kX3_canBeTold_10), trivial⟩ (zpS hK hP hD hS hA hG [] (by decide) rfl) rfl rfl hl.1 rfl (lv_room (Nat.le_of_ble_eq_true rfl)) dX3_canBeTold_40 ⟨Nat.le_of_ble_eq_true rfl, Nat.le_of_ble_eq_true rfl⟩) ?_
  refine lv_if_ne (tgt := 59) hx hb dX3_canBeTold_43 (by decide) (fun c_1 => ?_) (fun c_1 => ?_)
  · refine lv_iconst (v := 0) hx hb dX3_canBeTold_59 (by decide) ?_
    exact W.zret (v := (0 : Int32)) hx hb hr (zNar (Or.inl rfl)) (fun t ht hW => ⟨⟨(0 : Int32), (kT), rfl, ⟨(by unfold rX3_canBeTold; rw [if_neg c_1]), (by unfold oX3_canBeTold_kT; rw [if_neg c_1])⟩, (by rw [ht]; exact hP.sub [0, 1, 2, 3, 4, 5, 6, 7, 8, 9] rfl), va_K.moved hW.alike hK, hD.sub [0, 1, 2, 3, 4, 5, 6, 7, 8, 9] (by decide) rfl⟩, hS.F ht⟩) hS.2.2 dX3_canBeTold_60
  · refine lv_aload_n hx hb dX3_canBeTold_46 rfl (lv_at hl 3 rfl) ?_
    refine va_get (D := (dC, dI)) (ci := 3) (v := .ref lt) (C := RX3) (T := TX3) (N := 3) hx hb hts iX3_canBeTold_X3 hown hK hP 0 rfl rfl 2 (by decide) (hts _ kX3_canBeTold_11) (fun _ h9 => h9) rfl dX3_canBeTold_47 ?_
    refine lv_iload_n hx hb dX3_canBeTold_50 rfl (lv_at hl 1 rfl) ?_
    refine lv_iload hx hb dX3_canBeTold_51 (lv_at hl 0 rfl) ?_
    refine zcSi (va_runV (As := [.int (se (p1).toNatClampNeg), .int (th (p1).toNatClampNeg)]) (rest := []) ⟨hx, hb, hml, hown, hts⟩ (c_X2_isKnower l dC dI cI cJ lt kt ht s.heap.size kT hT (se (p1).toNatClampNeg) (th (p1).toNatClampNeg) (by assumption)) (cwV 2 hts gX3_canBeTold_X2_isKnower rfl rfl rfl (by decide +kernel) ⟨Nat.le_of_ble_eq_true rfl, Nat.le_of_ble_eq_true rfl⟩) (zpV hK hP hD hS hA hG [7, 8, 9] (by decide) rfl 2 7 rfl rfl) rfl rfl hl.1 rfl (lv_room (Nat.le_of_ble_eq_true rfl)) dX3_canBeTold_53 ⟨Nat.le_of_ble_eq_true rfl, Nat.le_of_ble_eq_true rfl⟩) ?_
    refine lv_if_eq (tgt := 61) hx hb dX3_canBeTold_56 (by decide) (fun c_2 => ?_) (fun c_2 => ?_)
    · refine lv_aload_n hx hb dX3_canBeTold_61 rfl (lv_at hl 3 rfl) ?_
      refine va_get (D := (dC, dI)) (ci := 3) (v := .ref lt) (C := RX3) (T := TX3) (N := 3) hx hb hts iX3_canBeTold_X3 hown hK hP 0 rfl rfl 2 (by decide) (hts _ kX3_canBeTold_11) (fun _ h9 => h9) rfl dX3_canBeTold_62 ?_
      refine lv_iload_n hx hb dX3_canBeTold_65 rfl (lv_at hl 2 rfl) ?_
      refine lv_iload hx hb dX3_canBeTold_66 (lv_at hl 0 rfl) ?_
      refine zcSi (va_runV (As := [.int (fi (p1).toNatClampNeg), .int (th (p1).toNatClampNeg)]) (rest := []) ⟨hx, hb, hml, hown, hts⟩ (c_X2_isKnower l dC dI cI cJ lt kt ht s.heap.size kT hT (fi (p1).toNatClampNeg) (th (p1).toNatClampNeg) (by assumption)) (cwV 2 hts gX3_canBeTold_X2_isKnower rfl rfl rfl (by decide +kernel) ⟨Nat.le_of_ble_eq_true rfl, Nat.le_of_ble_eq_true rfl⟩) (zpV hK hP hD hS hA hG [7, 8, 9] (by decide) rfl 2 7 rfl rfl) rfl rfl hl.1 rfl (lv_room (Nat.le_of_ble_eq_true rfl)) dX3_canBeTold_68 ⟨Nat.le_of_ble_eq_true rfl, Nat.le_of_ble_eq_true rfl⟩) ?_
      refine lv_if_ne (tgt := 87) hx hb dX3_canBeTold_71 (by decide) (fun c_3 => ?_) (fun c_3 => ?_)
      · refine lv_aload_n hx hb dX3_canBeTold_87 rfl (lv_at hl 3 rfl) ?_
        refine va_get (D := (dC, dI)) (ci := 3) (v := .ref lt) (C := RX3) (T := TX3) (N := 3) hx hb hts iX3_canBeTold_X3 hown hK hP 0 rfl rfl 2 (by decide) (hts _ kX3_canBeTold_11) (fun _ h9 => h9) rfl dX3_canBeTold_88 ?_
        refine lv_iload_n hx hb dX3_canBeTold_91 rfl (lv_at hl 2 rfl) ?_
        refine lv_iload hx hb dX3_canBeTold_92 (lv_at hl 0 rfl) ?_
        refine zkV (wr := [(pl, .inr (3, [.ref ca, .ref sg, .ref lt])), (ca, .inr (0, [.ref ck, .ref cf, .ref cs, .ref ct, .int size])), (ck, .inl (cI, 12, .inl ki)), (cf, .inl (cI, 12, .inl fi)), (cs, .inl (cI, 12, .inl se)), (ct, .inl (cI, 12, .inl th)), (sg, .inr (5, [.ref lg, .int on, .int il, .int ba]))]) (u0 := ((oX2_learn_fk kT hT (fi (p1).toNatClampNeg) (th (p1).toNatClampNeg)))) (va_runV (As := [.int (fi (p1).toNatClampNeg), .int (th (p1).toNatClampNeg)]) (rest := []) ⟨hx, hb, hml, hown, hts⟩ (c_X2_learn l dC dI cI cJ lt kt ht s.heap.size kT hT (fi (p1).toNatClampNeg) (th (p1).toNatClampNeg) (by assumption)) (cwV 2 hts gX3_canBeTold_X2_learn rfl rfl rfl (by decide +kernel) ⟨Nat.le_of_ble_eq_true rfl, Nat.le_of_ble_eq_true rfl⟩) (zpV hK hP hD hS hA hG [7, 8, 9] (by decide) rfl 2 7 rfl rfl) rfl rfl hl.1 rfl (lv_room (Nat.le_of_ble_eq_true rfl)) dX3_canBeTold_94 ⟨Nat.le_of_ble_eq_true rfl, Nat.le_of_ble_eq_true rfl⟩) (fun u h => h) hP hD hS hA [7, 8, 9] [0, 1, 2, 3, 4, 5, 6] rfl rfl (by decide) (by decide) (fun H locs hP hD hS => ?_)
        try dsimp only [List.cons_append, List.nil_append] at hP hD
        have hP : va_P (dC, dI) vwCl [(pl, .inr (3, [.ref ca, .ref sg, .ref lt])), (ca, .inr (0, [.ref ck, .ref cf, .ref cs, .ref ct, .int size])), (ck, .inl (cI, 12, .inl ki)), (cf, .inl (cI, 12, .inl fi)), (cs, .inl (cI, 12, .inl se)), (ct, .inl (cI, 12, .inl th)), (sg, .inr (5, [.ref lg, .int on, .int il, .int ba])), (lt, .inr (2, [.ref kt, .ref ht])), (kt, .inl (cI, 4, .inl (oX2_learn_fk kT hT (fi (p1).toNatClampNeg) (th (p1).toNatClampNeg)))), (ht, .inl (cI, 4, .inl hT))] H := hP
        have hD : va_D A [(pl, .inr (3, [.ref ca, .ref sg, .ref lt])), (ca, .inr (0, [.ref ck, .ref cf, .ref cs, .ref ct, .int size])), (ck, .inl (cI, 12, .inl ki)), (cf, .inl (cI, 12, .inl fi)), (cs, .inl (cI, 12, .inl se)), (ct, .inl (cI, 12, .inl th)), (sg, .inr (5, [.ref lg, .int on, .int il, .int ba])), (lt, .inr (2, [.ref kt, .ref ht])), (kt, .inl (cI, 4, .inl (oX2_learn_fk kT hT (fi (p1).toNatClampNeg) (th (p1).toNatClampNeg)))), (ht, .inl (cI, 4, .inl hT))] := hD
        refine lv_aload_n hx hb dX3_canBeTold_97 rfl (lv_at hl 3 rfl) ?_
        refine va_get (D := (dC, dI)) (ci := 3) (v := .ref lt) (C := RX3) (T := TX3) (N := 3) hx hb hts iX3_canBeTold_X3 hown hK hP 0 rfl rfl 2 (by decide) (hts _ kX3_canBeTold_11) (fun _ h9 => h9) rfl dX3_canBeTold_98 ?_
        refine lv_iload_n hx hb dX3_canBeTold_101 rfl (lv_at hl 1 rfl) ?_
        refine lv_iload hx hb dX3_canBeTold_102 (lv_at hl 0 rfl) ?_
        refine zkV (wr := [(pl, .inr (3, [.ref ca, .ref sg, .ref lt])), (ca, .inr (0, [.ref ck, .ref cf, .ref cs, .ref ct, .int size])), (ck, .inl (cI, 12, .inl ki)), (cf, .inl (cI, 12, .inl fi)), (cs, .inl (cI, 12, .inl se)), (ct, .inl (cI, 12, .inl th)), (sg, .inr (5, [.ref lg, .int on, .int il, .int ba]))]) (u0 := ((oX2_learn_fk (oX2_learn_fk kT hT (fi (p1).toNatClampNeg) (th (p1).toNatClampNeg)) hT (se (p1).toNatClampNeg) (th (p1).toNatClampNeg)))) (va_runV (As := [.int (se (p1).toNatClampNeg), .int (th (p1).toNatClampNeg)]) (rest := []) ⟨hx, hb, hml, hown, hts⟩ (c_X2_learn l dC dI cI cJ lt kt ht H.size (oX2_learn_fk kT hT (fi (p1).toNatClampNeg) (th (p1).toNatClampNeg)) hT (se (p1).toNatClampNeg) (th (p1).toNatClampNeg) (by assumption)) (cwV 2 hts gX3_canBeTold_X2_learn rfl rfl rfl (by decide +kernel) ⟨Nat.le_of_ble_eq_true rfl, Nat.le_of_ble_eq_true rfl⟩) (zpV hK hP hD hS hA hG [7, 8, 9] (by decide) rfl 2 7 rfl rfl) rfl rfl hl.1 rfl (lv_room (Nat.le_of_ble_eq_true rfl)) dX3_canBeTold_104 ⟨Nat.le_of_ble_eq_true rfl, Nat.le_of_ble_eq_true rfl⟩) (fun u h => h) hP hD hS hA [7, 8, 9] [0, 1, 2, 3, 4, 5, 6] rfl rfl (by decide) (by decide) (fun H locs hP hD hS => ?_)
        try dsimp only [List.cons_append, List.nil_append] at hP hD
        have hP : va_P (dC, dI) vwCl [(pl, .inr (3, [.ref ca, .ref sg, .ref lt])), (ca, .inr (0, [.ref ck, .ref cf, .ref cs, .ref ct, .int size])), (ck, .inl (cI, 12, .inl ki)), (cf, .inl (cI, 12, .inl fi)), (cs, .inl (cI, 12, .inl se)), (ct, .inl (cI, 12, .inl th)), (sg, .inr (5, [.ref lg, .int on, .int il, .int ba])), (lt, .inr (2, [.ref kt, .ref ht])), (kt, .inl (cI, 4, .inl (oX2_learn_fk (oX2_learn_fk kT hT (fi (p1).toNatClampNeg) (th (p1).toNatClampNeg)) hT (se (p1).toNatClampNeg) (th (p1).toNatClampNeg)))), (ht, .inl (cI, 4, .inl hT))] H := hP
        have hD : va_D A [(pl, .inr (3, [.ref ca, .ref sg, .ref lt])), (ca, .inr (0, [.ref ck, .ref cf, .ref cs, .ref ct, .int size])), (ck, .inl (cI, 12, .inl ki)), (cf, .inl (cI, 12, .inl fi)), (cs, .inl (cI, 12, .inl se)), (ct, .inl (cI, 12, .inl th)), (sg, .inr (5, [.ref lg, .int on, .int il, .int ba])), (lt, .inr (2, [.ref kt, .ref ht])), (kt, .inl (cI, 4, .inl (oX2_learn_fk (oX2_learn_fk kT hT (fi (p1).toNatClampNeg) (th (p1).toNatClampNeg)) hT (se (p1).toNatClampNeg) (th (p1).toNatClampNeg)))), (ht, .inl (cI, 4, .inl hT))] := hD
        refine lv_iconst (v := 1) hx hb dX3_canBeTold_107 (by decide) ?_
        exact W.zret (v := (1 : Int32)) hx hb hr (zNar (Or.inr rfl)) (fun t ht hW => ⟨⟨(1 : Int32), ((oX2_learn_fk (oX2_learn_fk kT hT (fi (p1).toNatClampNeg) (th (p1).toNatClampNeg)) hT (se (p1).toNatClampNeg) (th (p1).toNatClampNeg))), rfl, ⟨(by unfold rX3_canBeTold; rw [if_pos c_1, if_pos c_2, if_neg c_3]), (by unfold oX3_canBeTold_kT; rw [if_pos c_1, if_pos c_2, if_neg c_3])⟩, (by rw [ht]; exact hP.sub [0, 1, 2, 3, 4, 5, 6, 7, 8, 9] rfl), va_K.moved hW.alike hK, hD.sub [0, 1, 2, 3, 4, 5, 6, 7, 8, 9] (by decide) rfl⟩, hS.F ht⟩) hS.2.2 dX3_canBeTold_108
      · refine lv_aload_n hx hb dX3_canBeTold_74 rfl (lv_at hl 3 rfl) ?_
        refine lv_iload_n hx hb dX3_canBeTold_75 rfl (lv_at hl 2 rfl) ?_
        refine lv_iload hx hb dX3_canBeTold_76 (lv_at hl 0 rfl) ?_
        refine lv_iload_n hx hb dX3_canBeTold_78 rfl (lv_at hl 4 rfl) ?_
        refine zcSi (va_runV (As := [.int (fi (p1).toNatClampNeg), .int (th (p1).toNatClampNeg), .int p1]) (rest := []) ⟨hx, hb, hml, hown, hts⟩ (c_X3_canHear l dC dI cI cJ pl ca ck cf cs ct sg lt kt ht lg s.heap.size ki fi se th size on il ba kT hT (fi (p1).toNatClampNeg) (th (p1).toNatClampNeg) p1 (by assumption) (by assumption) (by assumption)) (cwV 3 hts gX3_canBeTold_X3_canHear rfl rfl rfl (by decide +kernel) ⟨Nat.le_of_ble_eq_true rfl, Nat.le_of_ble_eq_true rfl⟩) (zpV hK hP hD hS hA hG [0, 1, 2, 3, 4, 5, 6, 7, 8, 9] (by decide) rfl 3 0 rfl rfl) rfl rfl hl.1 rfl (lv_room (Nat.le_of_ble_eq_true rfl)) dX3_canBeTold_79 ⟨Nat.le_of_ble_eq_true rfl, Nat.le_of_ble_eq_true rfl⟩) ?_
        refine lv_if_ne (tgt := 87) hx hb dX3_canBeTold_82 (by decide) (fun c_4 => ?_) (fun c_4 => ?_)
        · refine lv_aload_n hx hb dX3_canBeTold_87 rfl (lv_at hl 3 rfl) ?_
          refine va_get (D := (dC, dI)) (ci := 3) (v := .ref lt) (C := RX3) (T := TX3) (N := 3) hx hb hts iX3_canBeTold_X3 hown hK hP 0 rfl rfl 2 (by decide) (hts _ kX3_canBeTold_11) (fun _ h9 => h9) rfl dX3_canBeTold_88 ?_
          refine lv_iload_n hx hb dX3_canBeTold_91 rfl (lv_at hl 2 rfl) ?_
          refine lv_iload hx hb dX3_canBeTold_92 (lv_at hl 0 rfl) ?_
          refine zkV (wr := [(pl, .inr (3, [.ref ca, .ref sg, .ref lt])), (ca, .inr (0, [.ref ck, .ref cf, .ref cs, .ref ct, .int size])), (ck, .inl (cI, 12, .inl ki)), (cf, .inl (cI, 12, .inl fi)), (cs, .inl (cI, 12, .inl se)), (ct, .inl (cI, 12, .inl th)), (sg, .inr (5, [.ref lg, .int on, .int il, .int ba]))]) (u0 := ((oX2_learn_fk kT hT (fi (p1).toNatClampNeg) (th (p1).toNatClampNeg)))) (va_runV (As := [.int (fi (p1).toNatClampNeg), .int (th (p1).toNatClampNeg)]) (rest := []) ⟨hx, hb, hml, hown, hts⟩ (c_X2_learn l dC dI cI cJ lt kt ht s.heap.size kT hT (fi (p1).toNatClampNeg) (th (p1).toNatClampNeg) (by assumption)) (cwV 2 hts gX3_canBeTold_X2_learn rfl rfl rfl (by decide +kernel) ⟨Nat.le_of_ble_eq_true rfl, Nat.le_of_ble_eq_true rfl⟩) (zpV hK hP hD hS hA hG [7, 8, 9] (by decide) rfl 2 7 rfl rfl) rfl rfl hl.1 rfl (lv_room (Nat.le_of_ble_eq_true rfl)) dX3_canBeTold_94 ⟨Nat.le_of_ble_eq_true rfl, Nat.le_of_ble_eq_true rfl⟩) (fun u h => h) hP hD hS hA [7, 8, 9] [0, 1, 2, 3, 4, 5, 6] rfl rfl (by decide) (by decide) (fun H locs hP hD hS => ?_)
          try dsimp only [List.cons_append, List.nil_append] at hP hD
          have hP : va_P (dC, dI) vwCl [(pl, .inr (3, [.ref ca, .ref sg, .ref lt])), (ca, .inr (0, [.ref ck, .ref cf, .ref cs, .ref ct, .int size])), (ck, .inl (cI, 12, .inl ki)), (cf, .inl (cI, 12, .inl fi)), (cs, .inl (cI, 12, .inl se)), (ct, .inl (cI, 12, .inl th)), (sg, .inr (5, [.ref lg, .int on, .int il, .int ba])), (lt, .inr (2, [.ref kt, .ref ht])), (kt, .inl (cI, 4, .inl (oX2_learn_fk kT hT (fi (p1).toNatClampNeg) (th (p1).toNatClampNeg)))), (ht, .inl (cI, 4, .inl hT))] H := hP
          have hD : va_D A [(pl, .inr (3, [.ref ca, .ref sg, .ref lt])), (ca, .inr (0, [.ref ck, .ref cf, .ref cs, .ref ct, .int size])), (ck, .inl (cI, 12, .inl ki)), (cf, .inl (cI, 12, .inl fi)), (cs, .inl (cI, 12, .inl se)), (ct, .inl (cI, 12, .inl th)), (sg, .inr (5, [.ref lg, .int on, .int il, .int ba])), (lt, .inr (2, [.ref kt, .ref ht])), (kt, .inl (cI, 4, .inl (oX2_learn_fk kT hT (fi (p1).toNatClampNeg) (th (p1).toNatClampNeg)))), (ht, .inl (cI, 4, .inl hT))] := hD
          refine lv_aload_n hx hb dX3_canBeTold_97 rfl (lv_at hl 3 rfl) ?_
          refine va_get (D := (dC, dI)) (ci := 3) (v := .ref lt) (C := RX3) (T := TX3) (N := 3) hx hb hts iX3_canBeTold_X3 hown hK hP 0 rfl rfl 2 (by decide) (hts _ kX3_canBeTold_11) (fun _ h9 => h9) rfl dX3_canBeTold_98 ?_
          refine lv_iload_n hx hb dX3_canBeTold_101 rfl (lv_at hl 1 rfl) ?_
          refine lv_iload hx hb dX3_canBeTold_102 (lv_at hl 0 rfl) ?_
          refine zkV (wr := [(pl, .inr (3, [.ref ca, .ref sg, .ref lt])), (ca, .inr (0, [.ref ck, .ref cf, .ref cs, .ref ct, .int size])), (ck, .inl (cI, 12, .inl ki)), (cf, .inl (cI, 12, .inl fi)), (cs, .inl (cI, 12, .inl se)), (ct, .inl (cI, 12, .inl th)), (sg, .inr (5, [.ref lg, .int on, .int il, .int ba]))]) (u0 := ((oX2_learn_fk (oX2_learn_fk kT hT (fi (p1).toNatClampNeg) (th (p1).toNatClampNeg)) hT (se (p1).toNatClampNeg) (th (p1).toNatClampNeg)))) (va_runV (As := [.int (se (p1).toNatClampNeg), .int (th (p1).toNatClampNeg)]) (rest := []) ⟨hx, hb, hml, hown, hts⟩ (c_X2_learn l dC dI cI cJ lt kt ht H.size (oX2_learn_fk kT hT (fi (p1).toNatClampNeg) (th (p1).toNatClampNeg)) hT (se (p1).toNatClampNeg) (th (p1).toNatClampNeg) (by assumption)) (cwV 2 hts gX3_canBeTold_X2_learn rfl rfl rfl (by decide +kernel) ⟨Nat.le_of_ble_eq_true rfl, Nat.le_of_ble_eq_true rfl⟩) (zpV hK hP hD hS hA hG [7, 8, 9] (by decide) rfl 2 7 rfl rfl) rfl rfl hl.1 rfl (lv_room (Nat.le_of_ble_eq_true rfl)) dX3_canBeTold_104 ⟨Nat.le_of_ble_eq_true rfl, Nat.le_of_ble_eq_true rfl⟩) (fun u h => h) hP hD hS hA [7, 8, 9] [0, 1, 2, 3, 4, 5, 6] rfl rfl (by decide) (by decide) (fun H locs hP hD hS => ?_)
          try dsimp only [List.cons_append, List.nil_append] at hP hD
          have hP : va_P (dC, dI) vwCl [(pl, .inr (3, [.ref ca, .ref sg, .ref lt])), (ca, .inr (0, [.ref ck, .ref cf, .ref cs, .ref ct, .int size])), (ck, .inl (cI, 12, .inl ki)), (cf, .inl (cI, 12, .inl fi)), (cs, .inl (cI, 12, .inl se)), (ct, .inl (cI, 12, .inl th)), (sg, .inr (5, [.ref lg, .int on, .int il, .int ba])), (lt, .inr (2, [.ref kt, .ref ht])), (kt, .inl (cI, 4, .inl (oX2_learn_fk (oX2_learn_fk kT hT (fi (p1).toNatClampNeg) (th (p1).toNatClampNeg)) hT (se (p1).toNatClampNeg) (th (p1).toNatClampNeg)))), (ht, .inl (cI, 4, .inl hT))] H := hP
          have hD : va_D A [(pl, .inr (3, [.ref ca, .ref sg, .ref lt])), (ca, .inr (0, [.ref ck, .ref cf, .ref cs, .ref ct, .int size])), (ck, .inl (cI, 12, .inl ki)), (cf, .inl (cI, 12, .inl fi)), (cs, .inl (cI, 12, .inl se)), (ct, .inl (cI, 12, .inl th)), (sg, .inr (5, [.ref lg, .int on, .int il, .int ba])), (lt, .inr (2, [.ref kt, .ref ht])), (kt, .inl (cI, 4, .inl (oX2_learn_fk (oX2_learn_fk kT hT (fi (p1).toNatClampNeg) (th (p1).toNatClampNeg)) hT (se (p1).toNatClampNeg) (th (p1).toNatClampNeg)))), (ht, .inl (cI, 4, .inl hT))] := hD
          refine lv_iconst (v := 1) hx hb dX3_canBeTold_107 (by decide) ?_
          exact W.zret (v := (1 : Int32)) hx hb hr (zNar (Or.inr rfl)) (fun t ht hW => ⟨⟨(1 : Int32), ((oX2_learn_fk (oX2_learn_fk kT hT (fi (p1).toNatClampNeg) (th (p1).toNatClampNeg)) hT (se (p1).toNatClampNeg) (th (p1).toNatClampNeg))), rfl, ⟨(by unfold rX3_canBeTold; rw [if_pos c_1, if_pos c_2, if_pos c_3, if_neg c_4]), (by unfold oX3_canBeTold_kT; rw [if_pos c_1, if_pos c_2, if_pos c_3, if_neg c_4])⟩, (by rw [ht]; exact hP.sub [0, 1, 2, 3, 4, 5, 6, 7, 8, 9] rfl), va_K.moved hW.alike hK, hD.sub [0, 1, 2, 3, 4, 5, 6, 7, 8, 9] (by decide) rfl⟩, hS.F ht⟩) hS.2.2 dX3_canBeTold_108
        · refine lv_iconst (v := 0) hx hb dX3_canBeTold_85 (by decide) ?_
          exact W.zret (v := (0 : Int32)) hx hb hr (zNar (Or.inl rfl)) (fun t ht hW => ⟨⟨(0 : Int32), (kT), rfl, ⟨(by unfold rX3_canBeTold; rw [if_pos c_1, if_pos c_2, if_pos c_3, if_pos c_4]), (by unfold oX3_canBeTold_kT; rw [if_pos c_1, if_pos c_2, if_pos c_3, if_pos c_4])⟩, (by rw [ht]; exact hP.sub [0, 1, 2, 3, 4, 5, 6, 7, 8, 9] rfl), va_K.moved hW.alike hK, hD.sub [0, 1, 2, 3, 4, 5, 6, 7, 8, 9] (by decide) rfl⟩, hS.F ht⟩) hS.2.2 dX3_canBeTold_86
    · refine lv_iconst (v := 0) hx hb dX3_canBeTold_59 (by decide) ?_
      exact W.zret (v := (0 : Int32)) hx hb hr (zNar (Or.inl rfl)) (fun t ht hW => ⟨⟨(0 : Int32), (kT), rfl, ⟨(by unfold rX3_canBeTold; rw [if_pos c_1, if_neg c_2]), (by unfold oX3_canBeTold_kT; rw [if_pos c_1, if_neg c_2])⟩, (by rw [ht]; exact hP.sub [0, 1, 2, 3, 4, 5, 6, 7, 8, 9] rfl), va_K.moved hW.alike hK, hD.sub [0, 1, 2, 3, 4, 5, 6, 7, 8, 9] (by decide) rfl⟩, hS.F ht⟩) hS.2.2 dX3_canBeTold_60
theorem brX3_canBeTold (ki : Nat → Int32) (fi : Nat → Int32) (se : Nat → Int32) (th : Nat → Int32) (size : Int32) (on : Int32) (il : Int32) (ba : Int32) (kT : Nat → Int32) (hT : Nat → Int32) (p1 : Int32) : rX3_canBeTold ki fi se th size on il ba kT hT p1 = 0 ∨ rX3_canBeTold ki fi se th size on il ba kT hT p1 = 1 := by
  unfold rX3_canBeTold
  repeat' split
  all_goals first | exact Or.inl rfl | exact Or.inr rfl | exact brX7_isIn _ _ | exact brX2_isKnower _ _ _ _ | exact brX3_canHear _ _ _ _ _ _ _ _ _ _ _ _ _

/-! X3_canBeDone -/
def rX3_canBeDone (ki : Nat → Int32) (fi : Nat → Int32) (se : Nat → Int32) (th : Nat → Int32) (size : Int32) (on : Int32) (il : Int32) (ba : Int32) (kT : Nat → Int32) (hT : Nat → Int32) (p1 : Int32) : Int32 := (if (rX7_isIn il (fi (p1).toNatClampNeg)) = 0 then (if (ki (p1).toNatClampNeg) = (2 : Int32) then (1 : Int32) else (if (ki (p1).toNatClampNeg) = (3 : Int32) then (1 : Int32) else (if (rX7_isIn il (se (p1).toNatClampNeg)) = 0 then (if (ki (p1).toNatClampNeg) = 0 then (rX3_canBeTold ki fi se th size on il ba kT hT p1) else (if (ki (p1).toNatClampNeg) = (1 : Int32) then (if (rX3_canBeGiven ki fi se th size on il ba kT hT p1) = 0 then (0 : Int32) else (1 : Int32)) else (1 : Int32))) else (0 : Int32)))) else (0 : Int32))
def oX3_canBeDone_kT (ki : Nat → Int32) (fi : Nat → Int32) (se : Nat → Int32) (th : Nat → Int32) (size : Int32) (on : Int32) (il : Int32) (ba : Int32) (kT : Nat → Int32) (hT : Nat → Int32) (p1 : Int32) : Nat → Int32 := (if (rX7_isIn il (fi (p1).toNatClampNeg)) = 0 then (if (ki (p1).toNatClampNeg) = (2 : Int32) then kT else (if (ki (p1).toNatClampNeg) = (3 : Int32) then kT else (if (rX7_isIn il (se (p1).toNatClampNeg)) = 0 then (if (ki (p1).toNatClampNeg) = 0 then (oX3_canBeTold_kT ki fi se th size on il ba kT hT p1) else kT) else kT))) else kT)
def oX3_canBeDone_hT (ki : Nat → Int32) (fi : Nat → Int32) (se : Nat → Int32) (th : Nat → Int32) (size : Int32) (on : Int32) (il : Int32) (ba : Int32) (kT : Nat → Int32) (hT : Nat → Int32) (p1 : Int32) : Nat → Int32 := (if (rX7_isIn il (fi (p1).toNatClampNeg)) = 0 then (if (ki (p1).toNatClampNeg) = (2 : Int32) then hT else (if (ki (p1).toNatClampNeg) = (3 : Int32) then hT else (if (rX7_isIn il (se (p1).toNatClampNeg)) = 0 then (if (ki (p1).toNatClampNeg) = 0 then hT else (if (ki (p1).toNatClampNeg) = (1 : Int32) then (oX3_canBeGiven_hT ki fi se th size on il ba kT hT p1) else hT)) else hT))) else hT)
set_option maxRecDepth 20000 in
theorem iX3_canBeDone_X3 : ∀ w ∈ u_ws RX3 TX3 3, w ∈ wsX3_canBeDone := by decide +kernel
set_option maxRecDepth 20000 in
theorem kX3_canBeDone_1 : Cond.fieldLink RX3 22 "MaskHall$Plot" "stage" "LMaskHall$Stage;" ∈ wsX3_canBeDone := by decide +kernel
set_option maxRecDepth 20000 in
theorem iX3_canBeDone_X5 : ∀ w ∈ u_ws RX5 TX5 4, w ∈ wsX3_canBeDone := by decide +kernel
set_option maxRecDepth 20000 in
theorem kX3_canBeDone_3 : Cond.fieldLink RX3 51 "MaskHall$Stage" "illMasks" "I" ∈ wsX3_canBeDone := by decide +kernel
set_option maxRecDepth 20000 in
theorem kX3_canBeDone_4 : Cond.fieldLink RX3 18 "MaskHall$Plot" "canvas" "LMaskHall$Canvas;" ∈ wsX3_canBeDone := by decide +kernel
set_option maxRecDepth 20000 in
theorem iX3_canBeDone_X0 : ∀ w ∈ u_ws RX0 TX0 5, w ∈ wsX3_canBeDone := by decide +kernel
set_option maxRecDepth 20000 in
theorem kX3_canBeDone_6 : Cond.fieldLink RX3 54 "MaskHall$Canvas" "firsts" "[I" ∈ wsX3_canBeDone := by decide +kernel
set_option maxRecDepth 20000 in
theorem kX3_canBeDone_7 : Cond.initialized RX7 ∈ wsX3_canBeDone := by decide +kernel
set_option maxRecDepth 20000 in
theorem kX3_canBeDone_8 : Cond.static yX7_isIn ∈ wsX3_canBeDone := by decide +kernel
set_option maxRecDepth 20000 in
theorem kX3_canBeDone_9 : Cond.fieldLink RX3 62 "MaskHall$Canvas" "kinds" "[I" ∈ wsX3_canBeDone := by decide +kernel
set_option maxRecDepth 20000 in
theorem kX3_canBeDone_10 : Cond.fieldLink RX3 65 "MaskHall$Canvas" "seconds" "[I" ∈ wsX3_canBeDone := by decide +kernel
set_option maxHeartbeats 1260000 in
set_option maxRecDepth 100000 in
theorem c_X3_canBeDone (l : Launch) (dC : Nat → ClassId) (dI : Nat → Nat → Nat) (cI cJ : ClassId) (pl ca ck cf cs ct sg lt kt ht lg : Nat) (sz : Nat) (ki : Nat → Int32) (fi : Nat → Int32) (se : Nat → Int32) (th : Nat → Int32) (size : Int32) (on : Int32) (il : Int32) (ba : Int32) (kT : Nat → Int32) (hT : Nat → Int32) (p1 : Int32) (hsz0 : 0 ≤ size.toInt) (hsz : size.toInt ≤ 12) (hin1 : vp_in p1 12) (hth : vp_in (th (p1).toNatClampNeg) 4) : Met l yX3_canBeDone wsX3_canBeDone ({ frames := 4, cells := 0, slots := 0, locals := 93 }) (va_Pc [.ref pl, .int p1] (zI (dC, dI) [(cI, .int), (cJ, .long)] [(pl, .inr (3, [.ref ca, .ref sg, .ref lt])), (ca, .inr (0, [.ref ck, .ref cf, .ref cs, .ref ct, .int size])), (ck, .inl (cI, 12, .inl ki)), (cf, .inl (cI, 12, .inl fi)), (cs, .inl (cI, 12, .inl se)), (ct, .inl (cI, 12, .inl th)), (sg, .inr (5, [.ref lg, .int on, .int il, .int ba])), (lt, .inr (2, [.ref kt, .ref ht])), (kt, .inl (cI, 4, .inl kT)), (ht, .inl (cI, 4, .inl hT))] sz)) (va_Qi (fun (r : Int32) (u : (Nat → Int32) × (Nat → Int32)) => r = rX3_canBeDone ki fi se th size on il ba kT hT p1 ∧ u.1 = oX3_canBeDone_kT ki fi se th size on il ba kT hT p1 ∧ u.2 = oX3_canBeDone_hT ki fi se th size on il ba kT hT p1) (fun u => zO (dC, dI) [(cI, .int), (cJ, .long)] [(pl, .inr (3, [.ref ca, .ref sg, .ref lt])), (ca, .inr (0, [.ref ck, .ref cf, .ref cs, .ref ct, .int size])), (ck, .inl (cI, 12, .inl ki)), (cf, .inl (cI, 12, .inl fi)), (cs, .inl (cI, 12, .inl se)), (ct, .inl (cI, 12, .inl th)), (sg, .inr (5, [.ref lg, .int on, .int il, .int ba])), (lt, .inr (2, [.ref kt, .ref ht])), (kt, .inl (cI, 4, .inl u.1)), (ht, .inl (cI, 4, .inl u.2))] (va_A [(pl, .inr (3, [.ref ca, .ref sg, .ref lt])), (ca, .inr (0, [.ref ck, .ref cf, .ref cs, .ref ct, .int size])), (ck, .inl (cI, 12, .inl ki)), (cf, .inl (cI, 12, .inl fi)), (cs, .inl (cI, 12, .inl se)), (ct, .inl (cI, 12, .inl th)), (sg, .inr (5, [.ref lg, .int on, .int il, .int ba])), (lt, .inr (2, [.ref kt, .ref ht])), (kt, .inl (cI, 4, .inl kT)), (ht, .inl (cI, 4, .inl hT))] sz)) (va_A [(pl, .inr (3, [.ref ca, .ref sg, .ref lt])), (ca, .inr (0, [.ref ck, .ref cf, .ref cs, .ref ct, .int size])), (ck, .inl (cI, 12, .inl ki)), (cf, .inl (cI, 12, .inl fi)), (cs, .inl (cI, 12, .inl se)), (ct, .inl (cI, 12, .inl th)), (sg, .inr (5, [.ref lg, .int on, .int il, .int ba])), (lt, .inr (2, [.ref kt, .ref ht])), (kt, .inl (cI, 4, .inl kT)), (ht, .inl (cI, 4, .inl hT))] sz)) 0 0 (va_A [(pl, .inr (3, [.ref ca, .ref sg, .ref lt])), (ca, .inr (0, [.ref ck, .ref cf, .ref cs, .ref ct, .int size])), (ck, .inl (cI, 12, .inl ki)), (cf, .inl (cI, 12, .inl fi)), (cs, .inl (cI, 12, .inl se)), (ct, .inl (cI, 12, .inl th)), (sg, .inr (5, [.ref lg, .int on, .int il, .int ba])), (lt, .inr (2, [.ref kt, .ref ht])), (kt, .inl (cI, 4, .inl kT)), (ht, .inl (cI, 4, .inl hT))] sz) := by
  refine Met.ofW (cc := cX3_canBeDone) (maxL := 3) (ret := (some .boolean)) (by decide) rfl ?_
  intro p e s m args below meth c s₁ B hml hv
  obtain ⟨rfl, hsz, hP, hK, hD0, hG⟩ := hv
  have hx := B.exec
  have hb := B.bytes
  have hr := B.returns
  have hts := atoms_spec (ws := wsX3_canBeDone) B.pre
  have hown : s.vm.findClass RX3 = some m.cls := findClass_of_methodNamed B.named
  have hlocks := B.notSynchronized
  subst hsz
  have hD := hD0.self (sz := s.heap.size)
  generalize hAe : va_A [(pl, .inr (3, [.ref ca, .ref sg, .ref lt])), (ca, .inr (0, [.ref ck, .ref cf, .ref cs, .ref ct, .int size])), (ck, .inl (cI, 12, .inl ki)), (cf, .inl (cI, 12, .inl fi)), (cs, .inl (cI, 12, .inl se)), (ct, .inl (cI, 12, .inl th)), (sg, .inr (5, [.ref lg, .int on, .int il, .int ba])), (lt, .inr (2, [.ref kt, .ref ht])), (kt, .inl (cI, 4, .inl kT)), (ht, .inl (cI, 4, .inl hT))] s.heap.size = A at hD hG ⊢
  have hA : ∀ q : Nat, s.heap.size ≤ q → A q := fun q h => by rw [← hAe]; exact Or.inr h
  have hS : va_S A s.heap s.heap [] := va_S.rf
  have hP : va_P (dC, dI) vwCl [(pl, .inr (3, [.ref ca, .ref sg, .ref lt])), (ca, .inr (0, [.ref ck, .ref cf, .ref cs, .ref ct, .int size])), (ck, .inl (cI, 12, .inl ki)), (cf, .inl (cI, 12, .inl fi)), (cs, .inl (cI, 12, .inl se)), (ct, .inl (cI, 12, .inl th)), (sg, .inr (5, [.ref lg, .int on, .int il, .int ba])), (lt, .inr (2, [.ref kt, .ref ht])), (kt, .inl (cI, 4, .inl kT)), (ht, .inl (cI, 4, .inl hT))] s.heap := hP
  have hl := lv_entry ([.ref pl, .int p1]) (n := 3) (Nat.le_of_ble_eq_true rfl)
  rw [lg_entry_eq]
  generalize (lg_sl ([.ref pl, .int p1]) ++ List.replicate (3 - (lg_sl ([.ref pl, .int p1])).length) Slot.unset).toArray = ls at hl ⊢
  have hl : lv_has ls 3 [(0, .ref pl), (1, .int p1)] := hl
  refine lv_aload_n hx hb dX3_canBeDone_0 rfl (lv_at hl 0 rfl) ?_
  refine va_get (D := (dC, dI)) (ci := 3) (v := .ref sg) (C := RX3) (T := TX3) (N := 3) hx hb hts iX3_canBeDone_X3 hown hK hP 0 rfl rfl 1 (by decide) (hts _ kX3_canBeDone_1) (fun _ h9 => h9) rfl dX3_canBeDone_1 ?_
  refine va_get (D := (dC, dI)) (ci := 5) (v := .int il) (C := RX5) (T := TX5) (N := 4) hx hb hts iX3_canBeDone_X5 hown hK hP 6 rfl rfl 2 (by decide) (hts _ kX3_canBeDone_3) (fun _ h9 => h9) rfl dX3_canBeDone_4 ?_
  refine lv_aload_n hx hb dX3_canBeDone_7 rfl (lv_at hl 0 rfl) ?_
  refine va_get (D := (dC, dI)) (ci := 3) (v := .ref ca) (C := RX3) (T := TX3) (N := 3) hx hb hts iX3_canBeDone_X3 hown hK hP 0 rfl rfl 0 (by decide) (hts _ kX3_canBeDone_4) (fun _ h9 => h9) rfl dX3_canBeDone_8 ?_
  refine va_get (D := (dC, dI)) (ci := 0) (v := .ref cf) (C := RX0) (T := TX0) (N := 5) hx hb hts iX3_canBeDone_X0 hown hK hP 1 rfl rfl 1 (by decide) (hts _ kX3_canBeDone_6) (fun _ h9 => h9) rfl dX3_canBeDone_11 ?_
  refine lv_iload_n hx hb dX3_canBeDone_14 rfl (lv_at hl 1 rfl) ?_
  refine va_iald hx hb hK hP 3 0 rfl rfl (i := p1) hin1 dX3_canBeDone_15 ?_
  refine zcSi (va_runSN (As := [.int il, .int (fi (p1).toNatClampNeg)]) (rest := []) ⟨hx, hb, hml, hown, hts⟩ (c_X7_isIn l dC dI cI cJ s.heap.size il (fi (p1).toNatClampNeg) ) ⟨va_cnB 2 hts gX3_canBeDone_X7_isIn_n58 rfl rfl rfl (hG.1.1 _ (List.mem_of_getElem? (i := 3) rfl)) (hts _ kX3_canBeDone_7) (by decide +kernel) ⟨Nat.le_of_ble_eq_true rfl, Nat.le_of_ble_eq_true rfl⟩, (hts _ kX3_canBeDone_8), trivial⟩ (zpS hK hP hD hS hA hG [] (by decide) rfl) rfl rfl hl.1 rfl (lv_room (Nat.le_of_ble_eq_true rfl)) dX3_canBeDone_16 ⟨Nat.le_of_ble_eq_true rfl, Nat.le_of_ble_eq_true rfl⟩) ?_
  refine lv_if_eq (tgt := 24) hx hb dX3_canBeDone_19 (by decide) (fun c_1 => ?_) (fun c_1 => ?_)
  · refine lv_aload_n hx hb dX3_canBeDone_24 rfl (lv_at hl 0 rfl) ?_
    refine va_get (D := (dC, dI)) (ci := 3) (v := .ref ca) (C := RX3) (T := TX3) (N := 3) hx hb hts iX3_canBeDone_X3 hown hK hP 0 rfl rfl 0 (by decide) (hts _ kX3_canBeDone_4) (fun _ h9 => h9) rfl dX3_canBeDone_25 ?_
    refine va_get (D := (dC, dI)) (ci := 0) (v := .ref ck) (C := RX0) (T := TX0) (N := 5) hx hb hts iX3_canBeDone_X0 hown hK hP 1 rfl rfl 0 (by decide) (hts _ kX3_canBeDone_9) (fun _ h9 => h9) rfl dX3_canBeDone_28 ?_
    refine lv_iload_n hx hb dX3_canBeDone_31 rfl (lv_at hl 1 rfl) ?_
    refine va_iald hx hb hK hP 2 0 rfl rfl (i := p1) hin1 dX3_canBeDone_32 ?_
    refine lv_istore_n (lv' := [(2, .int (ki (p1).toNatClampNeg)), (0, .ref pl), (1, .int p1)]) hx hb dX3_canBeDone_33 rfl hl (by decide) rfl (fun ls hl => ?_)
    refine lv_iload_n hx hb dX3_canBeDone_34 rfl (lv_at hl 0 rfl) ?_
    refine lv_iconst (v := 2) hx hb dX3_canBeDone_35 (by decide) ?_
    refine lv_icmp_eq (tgt := 44) hx hb dX3_canBeDone_36 (by decide) (fun c_2 => ?_) (fun c_2 => ?_)
    · refine lv_iconst (v := 1) hx hb dX3_canBeDone_44 (by decide) ?_
      exact W.zret (v := (1 : Int32)) hx hb hr (zNar (Or.inr rfl)) (fun t ht hW => ⟨⟨(1 : Int32), (kT, hT), rfl, ⟨(by unfold rX3_canBeDone; rw [if_pos c_1, if_pos c_2]), (by unfold oX3_canBeDone_kT; rw [if_pos c_1, if_pos c_2]), (by unfold oX3_canBeDone_hT; rw [if_pos c_1, if_pos c_2])⟩, (by rw [ht]; exact hP.sub [0, 1, 2, 3, 4, 5, 6, 7, 8, 9] rfl), va_K.moved hW.alike hK, hD.sub [0, 1, 2, 3, 4, 5, 6, 7, 8, 9] (by decide) rfl⟩, hS.F ht⟩) hS.2.2 dX3_canBeDone_45
    · refine lv_iload_n hx hb dX3_canBeDone_39 rfl (lv_at hl 0 rfl) ?_
      refine lv_iconst (v := 3) hx hb dX3_canBeDone_40 (by decide) ?_
      refine lv_icmp_ne (tgt := 46) hx hb dX3_canBeDone_41 (by decide) (fun c_3 => ?_) (fun c_3 => ?_)
      · refine lv_aload_n hx hb dX3_canBeDone_46 rfl (lv_at hl 1 rfl) ?_
        refine va_get (D := (dC, dI)) (ci := 3) (v := .ref sg) (C := RX3) (T := TX3) (N := 3) hx hb hts iX3_canBeDone_X3 hown hK hP 0 rfl rfl 1 (by decide) (hts _ kX3_canBeDone_1) (fun _ h9 => h9) rfl dX3_canBeDone_47 ?_
        refine va_get (D := (dC, dI)) (ci := 5) (v := .int il) (C := RX5) (T := TX5) (N := 4) hx hb hts iX3_canBeDone_X5 hown hK hP 6 rfl rfl 2 (by decide) (hts _ kX3_canBeDone_3) (fun _ h9 => h9) rfl dX3_canBeDone_50 ?_
        refine lv_aload_n hx hb dX3_canBeDone_53 rfl (lv_at hl 1 rfl) ?_
        refine va_get (D := (dC, dI)) (ci := 3) (v := .ref ca) (C := RX3) (T := TX3) (N := 3) hx hb hts iX3_canBeDone_X3 hown hK hP 0 rfl rfl 0 (by decide) (hts _ kX3_canBeDone_4) (fun _ h9 => h9) rfl dX3_canBeDone_54 ?_
        refine va_get (D := (dC, dI)) (ci := 0) (v := .ref cs) (C := RX0) (T := TX0) (N := 5) hx hb hts iX3_canBeDone_X0 hown hK hP 1 rfl rfl 2 (by decide) (hts _ kX3_canBeDone_10) (fun _ h9 => h9) rfl dX3_canBeDone_57 ?_
        refine lv_iload_n hx hb dX3_canBeDone_60 rfl (lv_at hl 2 rfl) ?_
        refine va_iald hx hb hK hP 4 0 rfl rfl (i := p1) hin1 dX3_canBeDone_61 ?_
        refine zcSi (va_runSN (As := [.int il, .int (se (p1).toNatClampNeg)]) (rest := []) ⟨hx, hb, hml, hown, hts⟩ (c_X7_isIn l dC dI cI cJ s.heap.size il (se (p1).toNatClampNeg) ) ⟨va_cnB 2 hts gX3_canBeDone_X7_isIn_n58 rfl rfl rfl (hG.1.1 _ (List.mem_of_getElem? (i := 3) rfl)) (hts _ kX3_canBeDone_7) (by decide +kernel) ⟨Nat.le_of_ble_eq_true rfl, Nat.le_of_ble_eq_true rfl⟩, (hts _ kX3_canBeDone_8), trivial⟩ (zpS hK hP hD hS hA hG [] (by decide) rfl) rfl rfl hl.1 rfl (lv_room (Nat.le_of_ble_eq_true rfl)) dX3_canBeDone_62 ⟨Nat.le_of_ble_eq_true rfl, Nat.le_of_ble_eq_true rfl⟩) ?_
        refine lv_if_eq (tgt := 70) hx hb dX3_canBeDone_65 (by decide) (fun c_4 => ?_) (fun c_4 => ?_)
        · refine lv_iload_n hx hb dX3_canBeDone_70 rfl (lv_at hl 0 rfl) ?_
          refine lv_if_ne (tgt := 80) hx hb dX3_canBeDone_71 (by decide) (fun c_5 => ?_) (fun c_5 => ?_)
          · refine lv_iload_n hx hb dX3_canBeDone_80 rfl (lv_at hl 0 rfl) ?_
            refine lv_iconst (v := 1) hx hb dX3_canBeDone_81 (by decide) ?_
            refine lv_icmp_ne (tgt := 93) hx hb dX3_canBeDone_82 (by decide) (fun c_6 => ?_) (fun c_6 => ?_)
            · refine lv_iconst (v := 1) hx hb dX3_canBeDone_93 (by decide) ?_
              refine lv_goto (tgt := 98) hx hb dX3_canBeDone_94 (by decide) ?_
              exact W.zret (v := (1 : Int32)) hx hb hr (zNar (Or.inr rfl)) (fun t ht hW => ⟨⟨(1 : Int32), (kT, hT), rfl, ⟨(by unfold rX3_canBeDone; rw [if_pos c_1, if_neg c_2, if_neg c_3, if_pos c_4, if_neg c_5, if_neg c_6]), (by unfold oX3_canBeDone_kT; rw [if_pos c_1, if_neg c_2, if_neg c_3, if_pos c_4, if_neg c_5]), (by unfold oX3_canBeDone_hT; rw [if_pos c_1, if_neg c_2, if_neg c_3, if_pos c_4, if_neg c_5, if_neg c_6])⟩, (by rw [ht]; exact hP.sub [0, 1, 2, 3, 4, 5, 6, 7, 8, 9] rfl), va_K.moved hW.alike hK, hD.sub [0, 1, 2, 3, 4, 5, 6, 7, 8, 9] (by decide) rfl⟩, hS.F ht⟩) hS.2.2 dX3_canBeDone_98
            · refine lv_aload_n hx hb dX3_canBeDone_85 rfl (lv_at hl 1 rfl) ?_
              refine lv_iload_n hx hb dX3_canBeDone_86 rfl (lv_at hl 2 rfl) ?_
              refine zkI (wr := []) (r0 := (rX3_canBeGiven ki fi se th size on il ba kT hT p1)) (u0 := ((oX3_canBeGiven_hT ki fi se th size on il ba kT hT p1))) (va_runV (As := [.int p1]) (rest := []) ⟨hx, hb, hml, hown, hts⟩ (c_X3_canBeGiven l dC dI cI cJ pl ca ck cf cs ct sg lt kt ht lg s.heap.size ki fi se th size on il ba kT hT p1 (by assumption) (by assumption)) (cwV 1 hts gX3_canBeDone_X3_canBeGiven rfl rfl rfl (by decide +kernel) ⟨Nat.le_of_ble_eq_true rfl, Nat.le_of_ble_eq_true rfl⟩) (zpV hK hP hD hS hA hG [0, 1, 2, 3, 4, 5, 6, 7, 8, 9] (by decide) rfl 3 0 rfl rfl) rfl rfl hl.1 rfl (lv_room (Nat.le_of_ble_eq_true rfl)) dX3_canBeDone_87 ⟨Nat.le_of_ble_eq_true rfl, Nat.le_of_ble_eq_true rfl⟩) (fun r u h => ⟨h.1, h.2⟩) hP hD hS hA [0, 1, 2, 3, 4, 5, 6, 7, 8, 9] [] rfl rfl (by decide) (by decide) (fun H locs hP hD hS => ?_)
              try dsimp only [List.cons_append, List.nil_append] at hP hD
              have hP : va_P (dC, dI) vwCl [(pl, .inr (3, [.ref ca, .ref sg, .ref lt])), (ca, .inr (0, [.ref ck, .ref cf, .ref cs, .ref ct, .int size])), (ck, .inl (cI, 12, .inl ki)), (cf, .inl (cI, 12, .inl fi)), (cs, .inl (cI, 12, .inl se)), (ct, .inl (cI, 12, .inl th)), (sg, .inr (5, [.ref lg, .int on, .int il, .int ba])), (lt, .inr (2, [.ref kt, .ref ht])), (kt, .inl (cI, 4, .inl kT)), (ht, .inl (cI, 4, .inl (oX3_canBeGiven_hT ki fi se th size on il ba kT hT p1)))] H := hP
              have hD : va_D A [(pl, .inr (3, [.ref ca, .ref sg, .ref lt])), (ca, .inr (0, [.ref ck, .ref cf, .ref cs, .ref ct, .int size])), (ck, .inl (cI, 12, .inl ki)), (cf, .inl (cI, 12, .inl fi)), (cs, .inl (cI, 12, .inl se)), (ct, .inl (cI, 12, .inl th)), (sg, .inr (5, [.ref lg, .int on, .int il, .int ba])), (lt, .inr (2, [.ref kt, .ref ht])), (kt, .inl (cI, 4, .inl kT)), (ht, .inl (cI, 4, .inl (oX3_canBeGiven_hT ki fi se th size on il ba kT hT p1)))] := hD
              refine lv_if_eq (tgt := 97) hx hb dX3_canBeDone_90 (by decide) (fun c_7 => ?_) (fun c_7 => ?_)
              · refine lv_iconst (v := 0) hx hb dX3_canBeDone_97 (by decide) ?_
                exact W.zret (v := (0 : Int32)) hx hb hr (zNar (Or.inl rfl)) (fun t ht hW => ⟨⟨(0 : Int32), (kT, (oX3_canBeGiven_hT ki fi se th size on il ba kT hT p1)), rfl, ⟨(by unfold rX3_canBeDone; rw [if_pos c_1, if_neg c_2, if_neg c_3, if_pos c_4, if_neg c_5, if_pos c_6, if_pos c_7]), (by unfold oX3_canBeDone_kT; rw [if_pos c_1, if_neg c_2, if_neg c_3, if_pos c_4, if_neg c_5]), (by unfold oX3_canBeDone_hT; rw [if_pos c_1, if_neg c_2, if_neg c_3, if_pos c_4, if_neg c_5, if_pos c_6])⟩, (by rw [ht]; exact hP.sub [0, 1, 2, 3, 4, 5, 6, 7, 8, 9] rfl), va_K.moved hW.alike hK, hD.sub [0, 1, 2, 3, 4, 5, 6, 7, 8, 9] (by decide) rfl⟩, hS.F ht⟩) hS.2.2 dX3_canBeDone_98
              · refine lv_iconst (v := 1) hx hb dX3_canBeDone_93 (by decide) ?_
                refine lv_goto (tgt := 98) hx hb dX3_canBeDone_94 (by decide) ?_
                exact W.zret (v := (1 : Int32)) hx hb hr (zNar (Or.inr rfl)) (fun t ht hW => ⟨⟨(1 : Int32), (kT, (oX3_canBeGiven_hT ki fi se th size on il ba kT hT p1)), rfl, ⟨(by unfold rX3_canBeDone; rw [if_pos c_1, if_neg c_2, if_neg c_3, if_pos c_4, if_neg c_5, if_pos c_6, if_neg c_7]), (by unfold oX3_canBeDone_kT; rw [if_pos c_1, if_neg c_2, if_neg c_3, if_pos c_4, if_neg c_5]), (by unfold oX3_canBeDone_hT; rw [if_pos c_1, if_neg c_2, if_neg c_3, if_pos c_4, if_neg c_5, if_pos c_6])⟩, (by rw [ht]; exact hP.sub [0, 1, 2, 3, 4, 5, 6, 7, 8, 9] rfl), va_K.moved hW.alike hK, hD.sub [0, 1, 2, 3, 4, 5, 6, 7, 8, 9] (by decide) rfl⟩, hS.F ht⟩) hS.2.2 dX3_canBeDone_98
          · refine lv_aload_n hx hb dX3_canBeDone_74 rfl (lv_at hl 1 rfl) ?_
            refine lv_iload_n hx hb dX3_canBeDone_75 rfl (lv_at hl 2 rfl) ?_
            refine zkI (wr := []) (r0 := (rX3_canBeTold ki fi se th size on il ba kT hT p1)) (u0 := ((oX3_canBeTold_kT ki fi se th size on il ba kT hT p1))) (va_runV (As := [.int p1]) (rest := []) ⟨hx, hb, hml, hown, hts⟩ (c_X3_canBeTold l dC dI cI cJ pl ca ck cf cs ct sg lt kt ht lg s.heap.size ki fi se th size on il ba kT hT p1 (by assumption) (by assumption) (by assumption) (by assumption)) (cwV 1 hts gX3_canBeDone_X3_canBeTold rfl rfl rfl (by decide +kernel) ⟨Nat.le_of_ble_eq_true rfl, Nat.le_of_ble_eq_true rfl⟩) (zpV hK hP hD hS hA hG [0, 1, 2, 3, 4, 5, 6, 7, 8, 9] (by decide) rfl 3 0 rfl rfl) rfl rfl hl.1 rfl (lv_room (Nat.le_of_ble_eq_true rfl)) dX3_canBeDone_76 ⟨Nat.le_of_ble_eq_true rfl, Nat.le_of_ble_eq_true rfl⟩) (fun r u h => ⟨h.1, h.2⟩) hP hD hS hA [0, 1, 2, 3, 4, 5, 6, 7, 8, 9] [] rfl rfl (by decide) (by decide) (fun H locs hP hD hS => ?_)
            try dsimp only [List.cons_append, List.nil_append] at hP hD
            have hP : va_P (dC, dI) vwCl [(pl, .inr (3, [.ref ca, .ref sg, .ref lt])), (ca, .inr (0, [.ref ck, .ref cf, .ref cs, .ref ct, .int size])), (ck, .inl (cI, 12, .inl ki)), (cf, .inl (cI, 12, .inl fi)), (cs, .inl (cI, 12, .inl se)), (ct, .inl (cI, 12, .inl th)), (sg, .inr (5, [.ref lg, .int on, .int il, .int ba])), (lt, .inr (2, [.ref kt, .ref ht])), (kt, .inl (cI, 4, .inl (oX3_canBeTold_kT ki fi se th size on il ba kT hT p1))), (ht, .inl (cI, 4, .inl hT))] H := hP
            have hD : va_D A [(pl, .inr (3, [.ref ca, .ref sg, .ref lt])), (ca, .inr (0, [.ref ck, .ref cf, .ref cs, .ref ct, .int size])), (ck, .inl (cI, 12, .inl ki)), (cf, .inl (cI, 12, .inl fi)), (cs, .inl (cI, 12, .inl se)), (ct, .inl (cI, 12, .inl th)), (sg, .inr (5, [.ref lg, .int on, .int il, .int ba])), (lt, .inr (2, [.ref kt, .ref ht])), (kt, .inl (cI, 4, .inl (oX3_canBeTold_kT ki fi se th size on il ba kT hT p1))), (ht, .inl (cI, 4, .inl hT))] := hD
            exact W.zret (v := (rX3_canBeTold ki fi se th size on il ba kT hT p1)) hx hb hr (zNar (brX3_canBeTold _ _ _ _ _ _ _ _ _ _ _)) (fun t ht hW => ⟨⟨(rX3_canBeTold ki fi se th size on il ba kT hT p1), ((oX3_canBeTold_kT ki fi se th size on il ba kT hT p1), hT), rfl, ⟨(by unfold rX3_canBeDone; rw [if_pos c_1, if_neg c_2, if_neg c_3, if_pos c_4, if_pos c_5]), (by unfold oX3_canBeDone_kT; rw [if_pos c_1, if_neg c_2, if_neg c_3, if_pos c_4, if_pos c_5]), (by unfold oX3_canBeDone_hT; rw [if_pos c_1, if_neg c_2, if_neg c_3, if_pos c_4, if_pos c_5])⟩, (by rw [ht]; exact hP.sub [0, 1, 2, 3, 4, 5, 6, 7, 8, 9] rfl), va_K.moved hW.alike hK, hD.sub [0, 1, 2, 3, 4, 5, 6, 7, 8, 9] (by decide) rfl⟩, hS.F ht⟩) hS.2.2 dX3_canBeDone_79
        · refine lv_iconst (v := 0) hx hb dX3_canBeDone_68 (by decide) ?_
          exact W.zret (v := (0 : Int32)) hx hb hr (zNar (Or.inl rfl)) (fun t ht hW => ⟨⟨(0 : Int32), (kT, hT), rfl, ⟨(by unfold rX3_canBeDone; rw [if_pos c_1, if_neg c_2, if_neg c_3, if_neg c_4]), (by unfold oX3_canBeDone_kT; rw [if_pos c_1, if_neg c_2, if_neg c_3, if_neg c_4]), (by unfold oX3_canBeDone_hT; rw [if_pos c_1, if_neg c_2, if_neg c_3, if_neg c_4])⟩, (by rw [ht]; exact hP.sub [0, 1, 2, 3, 4, 5, 6, 7, 8, 9] rfl), va_K.moved hW.alike hK, hD.sub [0, 1, 2, 3, 4, 5, 6, 7, 8, 9] (by decide) rfl⟩, hS.F ht⟩) hS.2.2 dX3_canBeDone_69
      · refine lv_iconst (v := 1) hx hb dX3_canBeDone_44 (by decide) ?_
        exact W.zret (v := (1 : Int32)) hx hb hr (zNar (Or.inr rfl)) (fun t ht hW => ⟨⟨(1 : Int32), (kT, hT), rfl, ⟨(by unfold rX3_canBeDone; rw [if_pos c_1, if_neg c_2, if_pos c_3]), (by unfold oX3_canBeDone_kT; rw [if_pos c_1, if_neg c_2, if_pos c_3]), (by unfold oX3_canBeDone_hT; rw [if_pos c_1, if_neg c_2, if_pos c_3])⟩, (by rw [ht]; exact hP.sub [0, 1, 2, 3, 4, 5, 6, 7, 8, 9] rfl), va_K.moved hW.alike hK, hD.sub [0, 1, 2, 3, 4, 5, 6, 7, 8, 9] (by decide) rfl⟩, hS.F ht⟩) hS.2.2 dX3_canBeDone_45
  · refine lv_iconst (v := 0) hx hb dX3_canBeDone_22 (by decide) ?_
    exact W.zret (v := (0 : Int32)) hx hb hr (zNar (Or.inl rfl)) (fun t ht hW => ⟨⟨(0 : Int32), (kT, hT), rfl, ⟨(by unfold rX3_canBeDone; rw [if_neg c_1]), (by unfold oX3_canBeDone_kT; rw [if_neg c_1]), (by unfold oX3_canBeDone_hT; rw [if_neg c_1])⟩, (by rw [ht]; exact hP.sub [0, 1, 2, 3, 4, 5, 6, 7, 8, 9] rfl), va_K.moved hW.alike hK, hD.sub [0, 1, 2, 3, 4, 5, 6, 7, 8, 9] (by decide) rfl⟩, hS.F ht⟩) hS.2.2 dX3_canBeDone_23
theorem brX3_canBeDone (ki : Nat → Int32) (fi : Nat → Int32) (se : Nat → Int32) (th : Nat → Int32) (size : Int32) (on : Int32) (il : Int32) (ba : Int32) (kT : Nat → Int32) (hT : Nat → Int32) (p1 : Int32) : rX3_canBeDone ki fi se th size on il ba kT hT p1 = 0 ∨ rX3_canBeDone ki fi se th size on il ba kT hT p1 = 1 := by
  unfold rX3_canBeDone
  repeat' split
  all_goals first | exact Or.inl rfl | exact Or.inr rfl | exact brX7_isIn _ _ | exact brX3_canBeGiven _ _ _ _ _ _ _ _ _ _ _ | exact brX3_canBeTold _ _ _ _ _ _ _ _ _ _ _
