/-! X7_isIn -/
def rX7_isIn (p0 : Int32) (p1 : Int32) : Int32 := (if ((p0 >>> (p1 &&& 31)) &&& (1 : Int32)) = (1 : Int32) then (1 : Int32) else (0 : Int32))
set_option maxHeartbeats 4000000 in
set_option maxRecDepth 100000 in
theorem c_X7_isIn (l : Launch) (dC : Nat → ClassId) (dI : Nat → Nat → Nat) (cI cJ : ClassId) (sz : Nat) (p0 : Int32) (p1 : Int32) : Met l yX7_isIn wsX7_isIn ({ frames := 0, cells := 0, slots := 0, locals := 0 }) (va_Pc [.int p0, .int p1] (zI (dC, dI) [(cI, .int), (cJ, .long)] [] sz)) (vp_Si (fun r => r = rX7_isIn p0 p1)) 0 0 (fun _ => False) := by
  refine Met.ofW (cc := cX7_isIn) (maxL := 2) (ret := (some .boolean)) (by decide) rfl ?_
  intro p e s m args below meth c s₁ B hml hv
  obtain ⟨rfl, hsz, hP, hK, hD0, hG⟩ := hv
  have hx := B.exec
  have hb := B.bytes
  have hr := B.returns
  have hts := atoms_spec (ws := wsX7_isIn) B.pre
  have hown : s.vm.findClass RX7 = some m.cls := findClass_of_methodNamed B.named
  have hlocks := B.notSynchronized
  subst hsz
  have hD := hD0.self (sz := s.heap.size)
  generalize hAe : va_A [] s.heap.size = A at hD hG
  have hA : ∀ q : Nat, s.heap.size ≤ q → A q := fun q h => by rw [← hAe]; exact Or.inr h
  have hS : va_S A s.heap s.heap [] := va_S.rf
  have hP : va_P (dC, dI) vwCl [] s.heap := hP
  have hl := lv_entry ([.int p0, .int p1]) (n := 2) (Nat.le_of_ble_eq_true rfl)
  rw [lg_entry_eq]
  generalize (lg_sl ([.int p0, .int p1]) ++ List.replicate (2 - (lg_sl ([.int p0, .int p1])).length) Slot.unset).toArray = ls at hl ⊢
  have hl : lv_has ls 2 [(0, .int p0), (1, .int p1)] := hl
  refine lv_iload_n hx hb dX7_isIn_0 rfl (lv_at hl 0 rfl) ?_
  refine lv_iload_n hx hb dX7_isIn_1 rfl (lv_at hl 1 rfl) ?_
  refine lv_ishr hx hb dX7_isIn_2 ?_
  refine lv_iconst (v := 1) hx hb dX7_isIn_3 (by decide) ?_
  refine lv_iand hx hb dX7_isIn_4 ?_
  refine lv_iconst (v := 1) hx hb dX7_isIn_5 (by decide) ?_
  refine lv_icmp_ne (tgt := 13) hx hb dX7_isIn_6 (by decide) (fun c_1 => ?_) (fun c_1 => ?_)
  · refine lv_iconst (v := 0) hx hb dX7_isIn_13 (by decide) ?_
    exact W.zret (v := (0 : Int32)) hx hb hr (zNar (Or.inl rfl)) (fun t ht hW => ⟨_, rfl, (by unfold rX7_isIn; rw [if_neg c_1]), ht⟩) (fun q hq => absurd hq List.not_mem_nil) dX7_isIn_14
  · refine lv_iconst (v := 1) hx hb dX7_isIn_9 (by decide) ?_
    refine lv_goto (tgt := 14) hx hb dX7_isIn_10 (by decide) ?_
    exact W.zret (v := (1 : Int32)) hx hb hr (zNar (Or.inr rfl)) (fun t ht hW => ⟨_, rfl, (by unfold rX7_isIn; rw [if_pos c_1]), ht⟩) (fun q hq => absurd hq List.not_mem_nil) dX7_isIn_14
theorem brX7_isIn (p0 : Int32) (p1 : Int32) : rX7_isIn p0 p1 = 0 ∨ rX7_isIn p0 p1 = 1 := by
  unfold rX7_isIn
  repeat' split
  all_goals first | exact Or.inl rfl | exact Or.inr rfl

/-! X2_isKnower -/
def rX2_isKnower (fk : Nat → Int32) (fh : Nat → Int32) (p1 : Int32) (p2 : Int32) : Int32 := (rX7_isIn (fk (p2).toNatClampNeg) p1)
set_option maxRecDepth 20000 in
theorem iX2_isKnower_X2 : ∀ w ∈ u_ws RX2 TX2 2, w ∈ wsX2_isKnower := by decide +kernel
set_option maxRecDepth 20000 in
theorem kX2_isKnower_1 : Cond.fieldLink RX2 9 "MaskHall$Lore" "knowers" "[I" ∈ wsX2_isKnower := by decide +kernel
set_option maxRecDepth 20000 in
theorem kX2_isKnower_2 : Cond.initialized RX7 ∈ wsX2_isKnower := by decide +kernel
set_option maxRecDepth 20000 in
theorem kX2_isKnower_3 : Cond.static yX7_isIn ∈ wsX2_isKnower := by decide +kernel
set_option maxHeartbeats 4000000 in
set_option maxRecDepth 100000 in
theorem c_X2_isKnower (l : Launch) (dC : Nat → ClassId) (dI : Nat → Nat → Nat) (cI cJ : ClassId) (h0 h1 h2 : Nat) (sz : Nat) (fk : Nat → Int32) (fh : Nat → Int32) (p1 : Int32) (p2 : Int32) (hin2 : vp_in p2 4) : Met l yX2_isKnower wsX2_isKnower ({ frames := 1, cells := 0, slots := 0, locals := 21 }) (va_Pc [.ref h0, .int p1, .int p2] (zI (dC, dI) [(cI, .int), (cJ, .long)] [(h0, .inr (2, [.ref h1, .ref h2])), (h1, .inl (cI, 4, .inl fk)), (h2, .inl (cI, 4, .inl fh))] sz)) (vp_Si (fun r => r = rX2_isKnower fk fh p1 p2)) 0 0 (fun _ => False) := by
  refine Met.ofW (cc := cX2_isKnower) (maxL := 3) (ret := (some .boolean)) (by decide) rfl ?_
  intro p e s m args below meth c s₁ B hml hv
  obtain ⟨rfl, hsz, hP, hK, hD0, hG⟩ := hv
  have hx := B.exec
  have hb := B.bytes
  have hr := B.returns
  have hts := atoms_spec (ws := wsX2_isKnower) B.pre
  have hown : s.vm.findClass RX2 = some m.cls := findClass_of_methodNamed B.named
  have hlocks := B.notSynchronized
  subst hsz
  have hD := hD0.self (sz := s.heap.size)
  generalize hAe : va_A [(h0, .inr (2, [.ref h1, .ref h2])), (h1, .inl (cI, 4, .inl fk)), (h2, .inl (cI, 4, .inl fh))] s.heap.size = A at hD hG
  have hA : ∀ q : Nat, s.heap.size ≤ q → A q := fun q h => by rw [← hAe]; exact Or.inr h
  have hS : va_S A s.heap s.heap [] := va_S.rf
  have hP : va_P (dC, dI) vwCl [(h0, .inr (2, [.ref h1, .ref h2])), (h1, .inl (cI, 4, .inl fk)), (h2, .inl (cI, 4, .inl fh))] s.heap := hP
  have hl := lv_entry ([.ref h0, .int p1, .int p2]) (n := 3) (Nat.le_of_ble_eq_true rfl)
  rw [lg_entry_eq]
  generalize (lg_sl ([.ref h0, .int p1, .int p2]) ++ List.replicate (3 - (lg_sl ([.ref h0, .int p1, .int p2])).length) Slot.unset).toArray = ls at hl ⊢
  have hl : lv_has ls 3 [(0, .ref h0), (1, .int p1), (2, .int p2)] := hl
  refine lv_aload_n hx hb dX2_isKnower_0 rfl (lv_at hl 0 rfl) ?_
  refine va_get (D := (dC, dI)) (ci := 2) (v := .ref h1) (C := RX2) (T := TX2) (N := 2) hx hb hts iX2_isKnower_X2 hown hK hP 0 rfl rfl 0 (by decide) (hts _ kX2_isKnower_1) (fun _ h9 => h9) rfl dX2_isKnower_1 ?_
  refine lv_iload_n hx hb dX2_isKnower_4 rfl (lv_at hl 2 rfl) ?_
  refine va_iald hx hb hK hP 1 0 rfl rfl (i := p2) hin2 dX2_isKnower_5 ?_
  refine lv_iload_n hx hb dX2_isKnower_6 rfl (lv_at hl 1 rfl) ?_
  refine vp_callSi (va_Run.run (va_runSN (As := [.int (fk (p2).toNatClampNeg), .int p1]) (rest := []) ⟨hx, hb, hml, hown, hts⟩ (c_X7_isIn l dC dI cI cJ s.heap.size (fk (p2).toNatClampNeg) p1 ) ⟨va_cnB 2 hts gX2_isKnower_X7_isIn_n30 rfl rfl rfl (hG.1.1 _ (List.mem_of_getElem? (i := 4) rfl)) (hts _ kX2_isKnower_2) (by decide +kernel) ⟨Nat.le_of_ble_eq_true rfl, Nat.le_of_ble_eq_true rfl⟩, (hts _ kX2_isKnower_3), trivial⟩ (zpS hK hP hD hS hA hG [] (by decide) rfl) rfl rfl hl.1 rfl (lv_room (Nat.le_of_ble_eq_true rfl)) dX2_isKnower_7 ⟨Nat.le_of_ble_eq_true rfl, Nat.le_of_ble_eq_true rfl⟩)) (fun r hr_1 => ?_)
  subst hr_1
  exact W.zret (v := (rX7_isIn (fk (p2).toNatClampNeg) p1)) hx hb hr (zNar (brX7_isIn _ _)) (fun t ht hW => ⟨_, rfl, (by unfold rX2_isKnower; rfl), ht⟩) (fun q hq => absurd hq List.not_mem_nil) dX2_isKnower_10
theorem brX2_isKnower (fk : Nat → Int32) (fh : Nat → Int32) (p1 : Int32) (p2 : Int32) : rX2_isKnower fk fh p1 p2 = 0 ∨ rX2_isKnower fk fh p1 p2 = 1 := by
  unfold rX2_isKnower
  repeat' split
  all_goals first | exact Or.inl rfl | exact Or.inr rfl | exact brX7_isIn _ _

/-! X2_learn -/
def oX2_learn_fk (fk : Nat → Int32) (fh : Nat → Int32) (p1 : Int32) (p2 : Int32) : Nat → Int32 := (upd fk (p2).toNatClampNeg ((fk (p2).toNatClampNeg) ||| ((1 : Int32) <<< (p1 &&& 31))))
set_option maxRecDepth 20000 in
theorem iX2_learn_X2 : ∀ w ∈ u_ws RX2 TX2 2, w ∈ wsX2_learn := by decide +kernel
set_option maxRecDepth 20000 in
theorem kX2_learn_1 : Cond.fieldLink RX2 9 "MaskHall$Lore" "knowers" "[I" ∈ wsX2_learn := by decide +kernel
set_option maxHeartbeats 4000000 in
set_option maxRecDepth 100000 in
theorem c_X2_learn (l : Launch) (dC : Nat → ClassId) (dI : Nat → Nat → Nat) (cI cJ : ClassId) (h0 h1 h2 : Nat) (sz : Nat) (fk : Nat → Int32) (fh : Nat → Int32) (p1 : Int32) (p2 : Int32) (hin2 : vp_in p2 4) : Met l yX2_learn wsX2_learn ({ frames := 0, cells := 0, slots := 0, locals := 0 }) (va_Pc [.ref h0, .int p1, .int p2] (zI (dC, dI) [(cI, .int), (cJ, .long)] [(h0, .inr (2, [.ref h1, .ref h2])), (h1, .inl (cI, 4, .inl fk)), (h2, .inl (cI, 4, .inl fh))] sz)) (va_Qv (fun (u : Nat → Int32) => u = oX2_learn_fk fk fh p1 p2) (fun u => zO (dC, dI) [(cI, .int), (cJ, .long)] [(h0, .inr (2, [.ref h1, .ref h2])), (h1, .inl (cI, 4, .inl u)), (h2, .inl (cI, 4, .inl fh))] (va_A [(h0, .inr (2, [.ref h1, .ref h2])), (h1, .inl (cI, 4, .inl fk)), (h2, .inl (cI, 4, .inl fh))] sz)) (va_A [(h0, .inr (2, [.ref h1, .ref h2])), (h1, .inl (cI, 4, .inl fk)), (h2, .inl (cI, 4, .inl fh))] sz)) 0 0 (va_A [(h0, .inr (2, [.ref h1, .ref h2])), (h1, .inl (cI, 4, .inl fk)), (h2, .inl (cI, 4, .inl fh))] sz) := by
  refine Met.ofW (cc := cX2_learn) (maxL := 3) (ret := none) (by decide) rfl ?_
  intro p e s m args below meth c s₁ B hml hv
  obtain ⟨rfl, hsz, hP, hK, hD0, hG⟩ := hv
  have hx := B.exec
  have hb := B.bytes
  have hr := B.returns
  have hts := atoms_spec (ws := wsX2_learn) B.pre
  have hown : s.vm.findClass RX2 = some m.cls := findClass_of_methodNamed B.named
  have hlocks := B.notSynchronized
  subst hsz
  have hD := hD0.self (sz := s.heap.size)
  generalize hAe : va_A [(h0, .inr (2, [.ref h1, .ref h2])), (h1, .inl (cI, 4, .inl fk)), (h2, .inl (cI, 4, .inl fh))] s.heap.size = A at hD hG ⊢
  have hA : ∀ q : Nat, s.heap.size ≤ q → A q := fun q h => by rw [← hAe]; exact Or.inr h
  have hS : va_S A s.heap s.heap [] := va_S.rf
  have hP : va_P (dC, dI) vwCl [(h0, .inr (2, [.ref h1, .ref h2])), (h1, .inl (cI, 4, .inl fk)), (h2, .inl (cI, 4, .inl fh))] s.heap := hP
  have hl := lv_entry ([.ref h0, .int p1, .int p2]) (n := 3) (Nat.le_of_ble_eq_true rfl)
  rw [lg_entry_eq]
  generalize (lg_sl ([.ref h0, .int p1, .int p2]) ++ List.replicate (3 - (lg_sl ([.ref h0, .int p1, .int p2])).length) Slot.unset).toArray = ls at hl ⊢
  have hl : lv_has ls 3 [(0, .ref h0), (1, .int p1), (2, .int p2)] := hl
  refine lv_aload_n hx hb dX2_learn_0 rfl (lv_at hl 0 rfl) ?_
  refine va_get (D := (dC, dI)) (ci := 2) (v := .ref h1) (C := RX2) (T := TX2) (N := 2) hx hb hts iX2_learn_X2 hown hK hP 0 rfl rfl 0 (by decide) (hts _ kX2_learn_1) (fun _ h9 => h9) rfl dX2_learn_1 ?_
  refine lv_iload_n hx hb dX2_learn_4 rfl (lv_at hl 2 rfl) ?_
  refine lv_dup2_11 hx hb dX2_learn_5 rfl rfl ?_
  refine va_iald hx hb hK hP 1 0 rfl rfl (i := p2) hin2 dX2_learn_6 ?_
  refine lv_iconst (v := 1) hx hb dX2_learn_7 (by decide) ?_
  refine lv_iload_n hx hb dX2_learn_8 rfl (lv_at hl 1 rfl) ?_
  refine lv_ishl hx hb dX2_learn_9 ?_
  refine lv_ior hx hb dX2_learn_10 ?_
  refine va_iast hx hb hK hP hD hS 1 0 rfl rfl (i := p2) (x := ((fk (p2).toNatClampNeg) ||| ((1 : Int32) <<< (p1 &&& 31)))) hin2 dX2_learn_11 (fun H locs hP hD hS => ?_)
  have hP : va_P (dC, dI) vwCl [(h0, .inr (2, [.ref h1, .ref h2])), (h1, .inl (cI, 4, .inl (upd fk (p2).toNatClampNeg ((fk (p2).toNatClampNeg) ||| ((1 : Int32) <<< (p1 &&& 31)))))), (h2, .inl (cI, 4, .inl fh))] H := hP
  have hD : va_D A [(h0, .inr (2, [.ref h1, .ref h2])), (h1, .inl (cI, 4, .inl (upd fk (p2).toNatClampNeg ((fk (p2).toNatClampNeg) ||| ((1 : Int32) <<< (p1 &&& 31)))))), (h2, .inl (cI, 4, .inl fh))] := hD
  exact W.vret hx hb hr (fun t ht hW => ⟨⟨((upd fk (p2).toNatClampNeg ((fk (p2).toNatClampNeg) ||| ((1 : Int32) <<< (p1 &&& 31))))), rfl, (by unfold oX2_learn_fk; rfl), (by rw [ht]; exact hP.sub [0, 1, 2] rfl), va_K.moved hW.alike hK, hD.sub [0, 1, 2] (by decide) rfl⟩, hS.F ht⟩) hS.2.2 dX2_learn_12

/-! X2_forget -/
def oX2_forget_fk (fk : Nat → Int32) (fh : Nat → Int32) (p1 : Int32) (p2 : Int32) : Nat → Int32 := (upd fk (p2).toNatClampNeg ((fk (p2).toNatClampNeg) &&& (((1 : Int32) <<< (p1 &&& 31)) ^^^ (-1 : Int32))))
set_option maxRecDepth 20000 in
theorem iX2_forget_X2 : ∀ w ∈ u_ws RX2 TX2 2, w ∈ wsX2_forget := by decide +kernel
set_option maxRecDepth 20000 in
theorem kX2_forget_1 : Cond.fieldLink RX2 9 "MaskHall$Lore" "knowers" "[I" ∈ wsX2_forget := by decide +kernel
set_option maxHeartbeats 4000000 in
set_option maxRecDepth 100000 in
theorem c_X2_forget (l : Launch) (dC : Nat → ClassId) (dI : Nat → Nat → Nat) (cI cJ : ClassId) (h0 h1 h2 : Nat) (sz : Nat) (fk : Nat → Int32) (fh : Nat → Int32) (p1 : Int32) (p2 : Int32) (hin2 : vp_in p2 4) : Met l yX2_forget wsX2_forget ({ frames := 0, cells := 0, slots := 0, locals := 0 }) (va_Pc [.ref h0, .int p1, .int p2] (zI (dC, dI) [(cI, .int), (cJ, .long)] [(h0, .inr (2, [.ref h1, .ref h2])), (h1, .inl (cI, 4, .inl fk)), (h2, .inl (cI, 4, .inl fh))] sz)) (va_Qv (fun (u : Nat → Int32) => u = oX2_forget_fk fk fh p1 p2) (fun u => zO (dC, dI) [(cI, .int), (cJ, .long)] [(h0, .inr (2, [.ref h1, .ref h2])), (h1, .inl (cI, 4, .inl u)), (h2, .inl (cI, 4, .inl fh))] (va_A [(h0, .inr (2, [.ref h1, .ref h2])), (h1, .inl (cI, 4, .inl fk)), (h2, .inl (cI, 4, .inl fh))] sz)) (va_A [(h0, .inr (2, [.ref h1, .ref h2])), (h1, .inl (cI, 4, .inl fk)), (h2, .inl (cI, 4, .inl fh))] sz)) 0 0 (va_A [(h0, .inr (2, [.ref h1, .ref h2])), (h1, .inl (cI, 4, .inl fk)), (h2, .inl (cI, 4, .inl fh))] sz) := by
  refine Met.ofW (cc := cX2_forget) (maxL := 3) (ret := none) (by decide) rfl ?_
  intro p e s m args below meth c s₁ B hml hv
  obtain ⟨rfl, hsz, hP, hK, hD0, hG⟩ := hv
  have hx := B.exec
  have hb := B.bytes
  have hr := B.returns
  have hts := atoms_spec (ws := wsX2_forget) B.pre
  have hown : s.vm.findClass RX2 = some m.cls := findClass_of_methodNamed B.named
  have hlocks := B.notSynchronized
  subst hsz
  have hD := hD0.self (sz := s.heap.size)
  generalize hAe : va_A [(h0, .inr (2, [.ref h1, .ref h2])), (h1, .inl (cI, 4, .inl fk)), (h2, .inl (cI, 4, .inl fh))] s.heap.size = A at hD hG ⊢
  have hA : ∀ q : Nat, s.heap.size ≤ q → A q := fun q h => by rw [← hAe]; exact Or.inr h
  have hS : va_S A s.heap s.heap [] := va_S.rf
  have hP : va_P (dC, dI) vwCl [(h0, .inr (2, [.ref h1, .ref h2])), (h1, .inl (cI, 4, .inl fk)), (h2, .inl (cI, 4, .inl fh))] s.heap := hP
  have hl := lv_entry ([.ref h0, .int p1, .int p2]) (n := 3) (Nat.le_of_ble_eq_true rfl)
  rw [lg_entry_eq]
  generalize (lg_sl ([.ref h0, .int p1, .int p2]) ++ List.replicate (3 - (lg_sl ([.ref h0, .int p1, .int p2])).length) Slot.unset).toArray = ls at hl ⊢
  have hl : lv_has ls 3 [(0, .ref h0), (1, .int p1), (2, .int p2)] := hl
  refine lv_aload_n hx hb dX2_forget_0 rfl (lv_at hl 0 rfl) ?_
  refine va_get (D := (dC, dI)) (ci := 2) (v := .ref h1) (C := RX2) (T := TX2) (N := 2) hx hb hts iX2_forget_X2 hown hK hP 0 rfl rfl 0 (by decide) (hts _ kX2_forget_1) (fun _ h9 => h9) rfl dX2_forget_1 ?_
  refine lv_iload_n hx hb dX2_forget_4 rfl (lv_at hl 2 rfl) ?_
  refine lv_dup2_11 hx hb dX2_forget_5 rfl rfl ?_
  refine va_iald hx hb hK hP 1 0 rfl rfl (i := p2) hin2 dX2_forget_6 ?_
  refine lv_iconst (v := 1) hx hb dX2_forget_7 (by decide) ?_
  refine lv_iload_n hx hb dX2_forget_8 rfl (lv_at hl 1 rfl) ?_
  refine lv_ishl hx hb dX2_forget_9 ?_
  refine lv_iconst (v := -1) hx hb dX2_forget_10 (by decide) ?_
  refine lv_ixor hx hb dX2_forget_11 ?_
  refine lv_iand hx hb dX2_forget_12 ?_
  refine va_iast hx hb hK hP hD hS 1 0 rfl rfl (i := p2) (x := ((fk (p2).toNatClampNeg) &&& (((1 : Int32) <<< (p1 &&& 31)) ^^^ (-1 : Int32)))) hin2 dX2_forget_13 (fun H locs hP hD hS => ?_)
  have hP : va_P (dC, dI) vwCl [(h0, .inr (2, [.ref h1, .ref h2])), (h1, .inl (cI, 4, .inl (upd fk (p2).toNatClampNeg ((fk (p2).toNatClampNeg) &&& (((1 : Int32) <<< (p1 &&& 31)) ^^^ (-1 : Int32)))))), (h2, .inl (cI, 4, .inl fh))] H := hP
  have hD : va_D A [(h0, .inr (2, [.ref h1, .ref h2])), (h1, .inl (cI, 4, .inl (upd fk (p2).toNatClampNeg ((fk (p2).toNatClampNeg) &&& (((1 : Int32) <<< (p1 &&& 31)) ^^^ (-1 : Int32)))))), (h2, .inl (cI, 4, .inl fh))] := hD
  exact W.vret hx hb hr (fun t ht hW => ⟨⟨((upd fk (p2).toNatClampNeg ((fk (p2).toNatClampNeg) &&& (((1 : Int32) <<< (p1 &&& 31)) ^^^ (-1 : Int32))))), rfl, (by unfold oX2_forget_fk; rfl), (by rw [ht]; exact hP.sub [0, 1, 2] rfl), va_K.moved hW.alike hK, hD.sub [0, 1, 2] (by decide) rfl⟩, hS.F ht⟩) hS.2.2 dX2_forget_14

/-! X7_needMask -/
def xX7_needMask (p0 : Int32) : Nat := (if p0 < 0 then 1 else (if p0 < (6 : Int32) then 0 else 1))
set_option maxRecDepth 20000 in
theorem tX7_needMask_193 : ∀ w ∈ (vx_atS RX7 193 "java/lang/IndexOutOfBoundsException" ["java/lang/RuntimeException", "java/lang/Exception"]).filter goodWord, w ∈ wsX7_needMask := by decide +kernel
set_option maxRecDepth 20000 in
theorem kX7_needMask_1 : Cond.classLink RX7 189 "java/lang/IndexOutOfBoundsException" ∈ wsX7_needMask := by decide +kernel
set_option maxRecDepth 20000 in
theorem kX7_needMask_2 : Cond.initialized "java/lang/IndexOutOfBoundsException" ∈ wsX7_needMask := by decide +kernel
set_option maxHeartbeats 4000000 in
set_option maxRecDepth 100000 in
theorem c_X7_needMask (l : Launch) (hfl : l.stackTraces = false) (dC : Nat → ClassId) (dI : Nat → Nat → Nat) (cI cJ : ClassId) (sz : Nat) (p0 : Int32) : vx_Met l yX7_needMask wsX7_needMask ({ frames := 6, cells := 1, slots := 6, locals := 82 }) (va_Pc [.int p0] (zI (dC, dI) [(cI, .int), (cJ, .long)] [] sz)) (va_Sv (fun _ => xX7_needMask p0 = 0)) (zX (fun k => xX7_needMask p0 = k ∧ k ≠ 0) sz) 1 6 (fun _ => False) := by
  refine vx_ofW (cc := cX7_needMask) (maxL := 1) (ret := none) (by decide) rfl ?_
  intro p e s m args below meth c s₁ B hml hto hv
  obtain ⟨rfl, hsz, hP, hK, hD0, hG⟩ := hv
  have hx := B.exec
  have hb := B.bytes
  have hr := B.returns
  have hts := atoms_spec (ws := wsX7_needMask) B.pre
  have hown : s.vm.findClass RX7 = some m.cls := findClass_of_methodNamed B.named
  have hlocks := B.notSynchronized
  subst hsz
  have hD := hD0.self (sz := s.heap.size)
  generalize hAe : va_A [] s.heap.size = A at hD hG
  have hA : ∀ q : Nat, s.heap.size ≤ q → A q := fun q h => by rw [← hAe]; exact Or.inr h
  have hS : va_S A s.heap s.heap [] := va_S.rf
  have hP : va_P (dC, dI) vwCl [] s.heap := hP
  have hl := lv_entry ([.int p0]) (n := 1) (Nat.le_of_ble_eq_true rfl)
  rw [lg_entry_eq]
  generalize (lg_sl ([.int p0]) ++ List.replicate (1 - (lg_sl ([.int p0])).length) Slot.unset).toArray = ls at hl ⊢
  have hl : lv_has ls 1 [(0, .int p0)] := hl
  refine lv_iload_n hx hb dX7_needMask_0 rfl (lv_at hl 0 rfl) ?_
  refine lv_if_lt (tgt := 10) hx hb dX7_needMask_1 (by decide) (fun c_1 => ?_) (fun c_1 => ?_)
  · obtain ⟨sa, hstr⟩ := hG.1.2.1 _ (List.mem_of_getElem? (i := 0) rfl)
    exact vx_throwS (names := ["java/lang/RuntimeException", "java/lang/Exception"]) (cls := "java/lang/IndexOutOfBoundsException") (sa := sa) hx hb hfl hown (by decide) (by decide) (hts _ kX7_needMask_1) (hts _ kX7_needMask_2) hstr (zHat1_193 (fun w h => hts w (tX7_needMask_193 w h))) zGood1_193_189 hG.2.1.1 hG.2.1.2 hS (hl.1.trans hml.symm) dX7_needMask_10 dX7_needMask_13 dX7_needMask_14 dX7_needMask_16 dX7_needMask_19 (fun x h => (hto x h).elim) (Nat.le_of_ble_eq_true rfl) (Nat.le_of_ble_eq_true rfl) (Nat.le_of_ble_eq_true rfl) (Nat.le_of_ble_eq_true rfl) hlocks (fun t hW hz1 hk1 => ⟨1, ⟨(by unfold xX7_needMask; rw [if_pos c_1]), by decide⟩, rfl, hz1, fun q h9 _ => hk1 q h9⟩) (fun z h => absurd h List.not_mem_nil) (by decide) (by decide)
  · refine lv_iload_n hx hb dX7_needMask_4 rfl (lv_at hl 0 rfl) ?_
    refine lv_bipush (v := 6) hx hb dX7_needMask_5 (by decide) ?_
    refine lv_icmp_lt (tgt := 20) hx hb dX7_needMask_7 (by decide) (fun c_2 => ?_) (fun c_2 => ?_)
    · exact W.widen (k := 1) (n := 6) (by decide) (by decide) (vx_ret (W.vret hx hb hr (fun t ht hW => ⟨rfl, (by unfold xX7_needMask; rw [if_neg c_1, if_pos c_2]), ht⟩) (fun q hq => absurd hq List.not_mem_nil) dX7_needMask_20))
    · obtain ⟨sa, hstr⟩ := hG.1.2.1 _ (List.mem_of_getElem? (i := 0) rfl)
      exact vx_throwS (names := ["java/lang/RuntimeException", "java/lang/Exception"]) (cls := "java/lang/IndexOutOfBoundsException") (sa := sa) hx hb hfl hown (by decide) (by decide) (hts _ kX7_needMask_1) (hts _ kX7_needMask_2) hstr (zHat1_193 (fun w h => hts w (tX7_needMask_193 w h))) zGood1_193_189 hG.2.1.1 hG.2.1.2 hS (hl.1.trans hml.symm) dX7_needMask_10 dX7_needMask_13 dX7_needMask_14 dX7_needMask_16 dX7_needMask_19 (fun x h => (hto x h).elim) (Nat.le_of_ble_eq_true rfl) (Nat.le_of_ble_eq_true rfl) (Nat.le_of_ble_eq_true rfl) (Nat.le_of_ble_eq_true rfl) hlocks (fun t hW hz1 hk1 => ⟨1, ⟨(by unfold xX7_needMask; rw [if_neg c_1, if_neg c_2]), by decide⟩, rfl, hz1, fun q h9 _ => hk1 q h9⟩) (fun z h => absurd h List.not_mem_nil) (by decide) (by decide)

/-! X7_needUnlike -/
def xX7_needUnlike (p0 : Int32) (p1 : Int32) : Nat := (if p0 = p1 then 2 else 0)
set_option maxRecDepth 20000 in
theorem tX7_needUnlike_247 : ∀ w ∈ (vx_atS RX7 247 "java/lang/IllegalArgumentException" ["java/lang/RuntimeException", "java/lang/Exception"]).filter goodWord, w ∈ wsX7_needUnlike := by decide +kernel
set_option maxRecDepth 20000 in
theorem kX7_needUnlike_1 : Cond.classLink RX7 243 "java/lang/IllegalArgumentException" ∈ wsX7_needUnlike := by decide +kernel
set_option maxRecDepth 20000 in
theorem kX7_needUnlike_2 : Cond.initialized "java/lang/IllegalArgumentException" ∈ wsX7_needUnlike := by decide +kernel
set_option maxHeartbeats 4000000 in
set_option maxRecDepth 100000 in
theorem c_X7_needUnlike (l : Launch) (hfl : l.stackTraces = false) (dC : Nat → ClassId) (dI : Nat → Nat → Nat) (cI cJ : ClassId) (sz : Nat) (p0 : Int32) (p1 : Int32) : vx_Met l yX7_needUnlike wsX7_needUnlike ({ frames := 6, cells := 1, slots := 6, locals := 82 }) (va_Pc [.int p0, .int p1] (zI (dC, dI) [(cI, .int), (cJ, .long)] [] sz)) (va_Sv (fun _ => xX7_needUnlike p0 p1 = 0)) (zX (fun k => xX7_needUnlike p0 p1 = k ∧ k ≠ 0) sz) 1 6 (fun _ => False) := by
  refine vx_ofW (cc := cX7_needUnlike) (maxL := 2) (ret := none) (by decide) rfl ?_
  intro p e s m args below meth c s₁ B hml hto hv
  obtain ⟨rfl, hsz, hP, hK, hD0, hG⟩ := hv
  have hx := B.exec
  have hb := B.bytes
  have hr := B.returns
  have hts := atoms_spec (ws := wsX7_needUnlike) B.pre
  have hown : s.vm.findClass RX7 = some m.cls := findClass_of_methodNamed B.named
  have hlocks := B.notSynchronized
  subst hsz
  have hD := hD0.self (sz := s.heap.size)
  generalize hAe : va_A [] s.heap.size = A at hD hG
  have hA : ∀ q : Nat, s.heap.size ≤ q → A q := fun q h => by rw [← hAe]; exact Or.inr h
  have hS : va_S A s.heap s.heap [] := va_S.rf
  have hP : va_P (dC, dI) vwCl [] s.heap := hP
  have hl := lv_entry ([.int p0, .int p1]) (n := 2) (Nat.le_of_ble_eq_true rfl)
  rw [lg_entry_eq]
  generalize (lg_sl ([.int p0, .int p1]) ++ List.replicate (2 - (lg_sl ([.int p0, .int p1])).length) Slot.unset).toArray = ls at hl ⊢
  have hl : lv_has ls 2 [(0, .int p0), (1, .int p1)] := hl
  refine lv_iload_n hx hb dX7_needUnlike_0 rfl (lv_at hl 0 rfl) ?_
  refine lv_iload_n hx hb dX7_needUnlike_1 rfl (lv_at hl 1 rfl) ?_
  refine lv_icmp_ne (tgt := 16) hx hb dX7_needUnlike_2 (by decide) (fun c_1 => ?_) (fun c_1 => ?_)
  · exact W.widen (k := 1) (n := 6) (by decide) (by decide) (vx_ret (W.vret hx hb hr (fun t ht hW => ⟨rfl, (by unfold xX7_needUnlike; rw [if_neg c_1]), ht⟩) (fun q hq => absurd hq List.not_mem_nil) dX7_needUnlike_16))
  · obtain ⟨sa, hstr⟩ := hG.1.2.1 _ (List.mem_of_getElem? (i := 4) rfl)
    exact vx_throwSW (names := ["java/lang/RuntimeException", "java/lang/Exception"]) (cls := "java/lang/IllegalArgumentException") (sa := sa) hx hb hfl hown (by decide) (by decide) (hts _ kX7_needUnlike_1) (hts _ kX7_needUnlike_2) hstr (zHat2_247 (fun w h => hts w (tX7_needUnlike_247 w h))) zGood2_247_243 hG.2.1.1 hG.2.1.2 hS (hl.1.trans hml.symm) dX7_needUnlike_5 dX7_needUnlike_8 dX7_needUnlike_9 dX7_needUnlike_12 dX7_needUnlike_15 (fun x h => (hto x h).elim) (Nat.le_of_ble_eq_true rfl) (Nat.le_of_ble_eq_true rfl) (Nat.le_of_ble_eq_true rfl) (Nat.le_of_ble_eq_true rfl) hlocks (fun t hW hz1 hk1 => ⟨2, ⟨(by unfold xX7_needUnlike; rw [if_pos c_1]), by decide⟩, rfl, hz1, fun q h9 _ => hk1 q h9⟩) (fun z h => absurd h List.not_mem_nil) (by decide) (by decide)
