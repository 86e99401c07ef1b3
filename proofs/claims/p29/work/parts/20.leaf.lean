/-! X7_isIn -/
def rX7_isIn (p0 : Int32) (p1 : Int32) : Int32 := (if ((p0 >>> (p1 &&& 31)) &&& (1 : Int32)) = (1 : Int32) then (1 : Int32) else (0 : Int32))
set_option maxHeartbeats 400000 in
set_option maxRecDepth 100000 in
theorem c_X7_isIn (l : Launch) (dC : Nat → ClassId) (dI : Nat → Nat → Nat) (cI cJ : ClassId) (sz : Nat) (p0 : Int32) (p1 : Int32) : Met l yX7_isIn wsX7_isIn ({ frames := 0, cells := 0, slots := 0, locals := 0 }) (va_Pc [.int p0, .int p1] (zI (dC, dI) [(cI, .int), (cJ, .long)] [] sz)) (vp_Si (fun r => r = rX7_isIn p0 p1)) 0 0 (fun _ => False) := by
  refine Met.ofW (cc := cX7_isIn) (maxL := 2) (ret := (some .boolean)) (by decide) rfl ?_
  intro p e s m args below meth c s₁ B hml hv
  obtain ⟨rfl, hsz, hP, hK, hD0, hG⟩ := hv
  have hx := B.exec
  have hb := B.bytes
  have hr := B.returns
  have hts := atoms_spec (ws := wsX7_isIn) B.pre
  have hown : s.vm.findClass RX7 = some m.cls := findClass_of_methodNamed B.named
  have hlocks := B.notSynchronized
  subst hsz
  have hD := hD0.self (sz := s.heap.size)
  generalize hAe : va_A [] s.heap.size = A at hD hG
  have hA : ∀ q : Nat, s.heap.size ≤ q → A q := fun q h => by rw [← hAe]; exact Or.inr h
  have hS : va_S A s.heap s.heap [] := va_S.rf
  have hP : va_P (dC, dI) vwCl [] s.heap := hP
  have hl := lv_entry ([.int p0, .int p1]) (n := 2) (Nat.le_of_ble_eq_true rfl)
  rw [lg_entry_eq]
  generalize (lg_sl ([.int p0, .int p1]) ++ List.replicate (2 - (lg_sl ([.int p0, .int p1])).length) Slot.unset).toArray = ls at hl ⊢
  have hl : lv_has ls 2 [(0, .int p0), (1, .int p1)] := hl
  refine lv_iload_n hx hb dX7_isIn_0 rfl (lv_at hl 0 rfl) ?_
  refine lv_iload_n hx hb dX7_isIn_1 rfl (lv_at hl 1 rfl) ?_
  refine lv_ishr hx hb dX7_isIn_2 ?_
  refine lv_iconst (v := 1) hx hb dX7_isIn_3 (by decide) ?_
  refine lv_iand hx hb dX7_isIn_4 ?_
  refine lv_iconst (v := 1) hx hb dX7_isIn_5 (by decide) ?_
  refine lv_icmp_ne (tgt := 13) hx hb dX7_isIn_6 (by decide) (fun c_1 => ?_) (fun c_1 => ?_)
  · refine lv_iconst (v := 0) hx hb dX7_isIn_13 (by decide) ?_
    exact W.zret (v := (0 : Int32)) hx hb hr (zNar (Or.inl rfl)) (fun t ht hW => ⟨_, rfl, (by unfold rX7_isIn; rw [if_neg c_1]), ht⟩) (fun q hq => absurd hq List.not_mem_nil) dX7_isIn_14
  · refine lv_iconst (v := 1) hx hb dX7_isIn_9 (by decide) ?_
    refine lv_goto (tgt := 14) hx hb dX7_isIn_10 (by decide) ?_
    exact W.zret (v := (1 : Int32)) hx hb hr (zNar (Or.inr rfl)) (fun t ht hW => ⟨_, rfl, (by unfold rX7_isIn; rw [if_pos c_1]), ht⟩) (fun q hq => absurd hq List.not_mem_nil) dX7_isIn_14
theorem brX7_isIn (p0 : Int32) (p1 : Int32) : rX7_isIn p0 p1 = 0 ∨ rX7_isIn p0 p1 = 1 := by
  unfold rX7_isIn
  repeat' split
  all_goals first | exact Or.inl rfl | exact Or.inr rfl

/-! X2_isKnower -/
def rX2_isKnower (fk : Nat → Int32) (fh : Nat → Int32) (p1 : Int32) (p2 : Int32) : Int32 := (rX7_isIn (fk (p2).toNatClampNeg) p1)
set_option maxRecDepth 20000 in
theorem iX2_isKnower_X2 : ∀ w ∈ u_ws RX2 TX2 2, w ∈ wsX2_isKnower := by decide +kernel
set_option maxRecDepth 20000 in
theorem kX2_isKnower_1 : Cond.fieldLink RX2 9 "MaskHall$Lore" "knowers" "[I" ∈ wsX2_isKnower := by decide +kernel
set_option maxRecDepth 20000 in
theorem kX2_isKnower_2 : Cond.initialized RX7 ∈ wsX2_isKnower := by decide +kernel
set_option maxRecDepth 20000 in
theorem kX2_isKnower_3 : Cond.static yX7_isIn ∈ wsX2_isKnower := by decide +kernel
set_option maxHeartbeats 320000 in
set_option maxRecDepth 100000 in
theorem c_X2_isKnower (l : Launch) (dC : Nat → ClassId) (dI : Nat → Nat → Nat) (cI cJ : ClassId) (h0 h1 h2 : Nat) (sz : Nat) (fk : Nat → Int32) (fh : Nat → Int32) (p1 : Int32) (p2 : Int32) (hin2 : vp_in p2 4) : Met l yX2_isKnower wsX2_isKnower ({ frames := 1, cells := 0, slots := 0, locals := 21 }) (va_Pc [.ref h0, .int p1, .int p2] (zI (dC, dI) [(cI, .int), (cJ, .long)] [(h0, .inr (2, [.ref h1, .ref h2])), (h1, .inl (cI, 4, .inl fk)), (h2, .inl (cI, 4, .inl fh))] sz)) (vp_Si (fun r => r = rX2_isKnower fk fh p1 p2)) 0 0 (fun _ => False) := by
  refine Met.ofW (cc := cX2_isKnower) (maxL := 3) (ret := (some .boolean)) (by decide) rfl ?_
  intro p e s m args below meth c s₁ B hml hv
  obtain ⟨rfl, hsz, hP, hK, hD0, hG⟩ := hv
  have hx := B.exec
  have hb := B.bytes
  have hr := B.returns
  have hts := atoms_spec (ws := wsX2_isKnower) B.pre
  have hown : s.vm.findClass RX2 = some m.cls := findClass_of_methodNamed B.named
  have hlocks := B.notSynchronized
  subst hsz
  have hD := hD0.self (sz := s.heap.size)
  generalize hAe : va_A [(h0, .inr (2, [.ref h1, .ref h2])), (h1, .inl (cI, 4, .inl fk)), (h2, .inl (cI, 4, .inl fh))] s.heap.size = A at hD hG
  have hA : ∀ q : Nat, s.heap.size ≤ q → A q := fun q h => by rw [← hAe]; exact Or.inr h
  have hS : va_S A s.heap s.heap [] := va_S.rf
  have hP : va_P (dC, dI) vwCl [(h0, .inr (2, [.ref h1, .ref h2])), (h1, .inl (cI, 4, .inl fk)), (h2, .inl (cI, 4, .inl fh))] s.heap := hP
  have hl := lv_entry ([.ref h0, .int p1, .int p2]) (n := 3) (Nat.le_of_ble_eq_true rfl)
  rw [lg_entry_eq]
  generalize (lg_sl ([.ref h0, .int p1, .int p2]) ++ List.replicate (3 - (lg_sl ([.ref h0, .int p1, .int p2])).length) Slot.unset).toArray = ls at hl ⊢
  have hl : lv_has ls 3 [(0, .ref h0), (1, .int p1), (2, .int p2)] := hl
  refine lv_aload_n hx hb dX2_isKnower_0 rfl (lv_at hl 0 rfl) ?_
  refine va_get (D := (dC, dI)) (ci := 2) (v := .ref h1) (C := RX2) (T := TX2) (N := 2) hx hb hts iX2_isKnower_X2 hown hK hP 0 rfl rfl 0 (by decide) (hts _ kX2_isKnower_1) (fun _ h9 => h9) rfl dX2_isKnower_1 ?_
  refine lv_iload_n hx hb dX2_isKnower_4 rfl (lv_at hl 2 rfl) ?_
  refine va_iald hx hb hK hP 1 0 rfl rfl (i := p2) hin2 dX2_isKnower_5 ?_
  refine lv_iload_n hx hb dX2_isKnower_6 rfl (lv_at hl 1 rfl) ?_
  refine zcSi (va_runSN (As := [.int (fk (p2).toNatClampNeg), .int p1]) (rest := []) ⟨hx, hb, hml, hown, hts⟩ (c_X7_isIn l dC dI cI cJ s.heap.size (fk (p2).toNatClampNeg) p1 ) ⟨va_cnB 2 hts gX2_isKnower_X7_isIn_n30 rfl rfl rfl (hG.1.1 _ (List.mem_of_getElem? (i := 4) rfl)) (hts _ kX2_isKnower_2) (by decide +kernel) ⟨Nat.le_of_ble_eq_true rfl, Nat.le_of_ble_eq_true rfl⟩, (hts _ kX2_isKnower_3), trivial⟩ (zpS hK hP hD hS hA hG [] (by decide) rfl) rfl rfl hl.1 rfl (lv_room (Nat.le_of_ble_eq_true rfl)) dX2_isKnower_7 ⟨Nat.le_of_ble_eq_true rfl, Nat.le_of_ble_eq_true rfl⟩) ?_
  exact W.zret (v := (rX7_isIn (fk (p2).toNatClampNeg) p1)) hx hb hr (zNar (brX7_isIn _ _)) (fun t ht hW => ⟨_, rfl, (by unfold rX2_isKnower; rfl), ht⟩) (fun q hq => absurd hq List.not_mem_nil) dX2_isKnower_10
theorem brX2_isKnower (fk : Nat → Int32) (fh : Nat → Int32) (p1 : Int32) (p2 : Int32) : rX2_isKnower fk fh p1 p2 = 0 ∨ rX2_isKnower fk fh p1 p2 = 1 := by
  unfold rX2_isKnower
  repeat' split
  all_goals first | exact Or.inl rfl | exact Or.inr rfl | exact brX7_isIn _ _

/-! X2_learn -/
def oX2_learn_fk (fk : Nat → Int32) (fh : Nat → Int32) (p1 : Int32) (p2 : Int32) : Nat → Int32 := (upd fk (p2).toNatClampNeg ((fk (p2).toNatClampNeg) ||| ((1 : Int32) <<< (p1 &&& 31))))
set_option maxRecDepth 20000 in
theorem iX2_learn_X2 : ∀ w ∈ u_ws RX2 TX2 2, w ∈ wsX2_learn := by decide +kernel
set_option maxRecDepth 20000 in
theorem kX2_learn_1 : Cond.fieldLink RX2 9 "MaskHall$Lore" "knowers" "[I" ∈ wsX2_learn := by decide +kernel
set_option maxHeartbeats 400000 in
set_option maxRecDepth 100000 in
theorem c_X2_learn (l : Launch) (dC : Nat → ClassId) (dI : Nat → Nat → Nat) (cI cJ : ClassId) (h0 h1 h2 : Nat) (sz : Nat) (fk : Nat → Int32) (fh : Nat → Int32) (p1 : Int32) (p2 : Int32) (hin2 : vp_in p2 4) : Met l yX2_learn wsX2_learn ({ frames := 0, cells := 0, slots := 0, locals := 0 }) (va_Pc [.ref h0, .int p1, .int p2] (zI (dC, dI) [(cI, .int), (cJ, .long)] [(h0, .inr (2, [.ref h1, .ref h2])), (h1, .inl (cI, 4, .inl fk)), (h2, .inl (cI, 4, .inl fh))] sz)) (va_Qv (fun (u : (Nat → Int32)) => u = oX2_learn_fk fk fh p1 p2) (fun u => zO (dC, dI) [(cI, .int), (cJ, .long)] [(h0, .inr (2, [.ref h1, .ref h2])), (h1, .inl (cI, 4, .inl u)), (h2, .inl (cI, 4, .inl fh))] (va_A [(h0, .inr (2, [.ref h1, .ref h2])), (h1, .inl (cI, 4, .inl fk)), (h2, .inl (cI, 4, .inl fh))] sz)) (va_A [(h0, .inr (2, [.ref h1, .ref h2])), (h1, .inl (cI, 4, .inl fk)), (h2, .inl (cI, 4, .inl fh))] sz)) 0 0 (va_A [(h0, .inr (2, [.ref h1, .ref h2])), (h1, .inl (cI, 4, .inl fk)), (h2, .inl (cI, 4, .inl fh))] sz) := by
  refine Met.ofW (cc := cX2_learn) (maxL := 3) (ret := none) (by decide) rfl ?_
  intro p e s m args below meth c s₁ B hml hv
  obtain ⟨rfl, hsz, hP, hK, hD0, hG⟩ := hv
  have hx := B.exec
  have hb := B.bytes
  have hr := B.returns
  have hts := atoms_spec (ws := wsX2_learn) B.pre
  have hown : s.vm.findClass RX2 = some m.cls := findClass_of_methodNamed B.named
  have hlocks := B.notSynchronized
  subst hsz
  have hD := hD0.self (sz := s.heap.size)
  generalize hAe : va_A [(h0, .inr (2, [.ref h1, .ref h2])), (h1, .inl (cI, 4, .inl fk)), (h2, .inl (cI, 4, .inl fh))] s.heap.size = A at hD hG ⊢
  have hA : ∀ q : Nat, s.heap.size ≤ q → A q := fun q h => by rw [← hAe]; exact Or.inr h
  have hS : va_S A s.heap s.heap [] := va_S.rf
  have hP : va_P (dC, dI) vwCl [(h0, .inr (2, [.ref h1, .ref h2])), (h1, .inl (cI, 4, .inl fk)), (h2, .inl (cI, 4, .inl fh))] s.heap := hP
  have hl := lv_entry ([.ref h0, .int p1, .int p2]) (n := 3) (Nat.le_of_ble_eq_true rfl)
  rw [lg_entry_eq]
  generalize (lg_sl ([.ref h0, .int p1, .int p2]) ++ List.replicate (3 - (lg_sl ([.ref h0, .int p1, .int p2])).length) Slot.unset).toArray = ls at hl ⊢
  have hl : lv_has ls 3 [(0, .ref h0), (1, .int p1), (2, .int p2)] := hl
  refine lv_aload_n hx hb dX2_learn_0 rfl (lv_at hl 0 rfl) ?_
  refine va_get (D := (dC, dI)) (ci := 2) (v := .ref h1) (C := RX2) (T := TX2) (N := 2) hx hb hts iX2_learn_X2 hown hK hP 0 rfl rfl 0 (by decide) (hts _ kX2_learn_1) (fun _ h9 => h9) rfl dX2_learn_1 ?_
  refine lv_iload_n hx hb dX2_learn_4 rfl (lv_at hl 2 rfl) ?_
  refine lv_dup2_11 hx hb dX2_learn_5 rfl rfl ?_
  refine va_iald hx hb hK hP 1 0 rfl rfl (i := p2) hin2 dX2_learn_6 ?_
  refine lv_iconst (v := 1) hx hb dX2_learn_7 (by decide) ?_
  refine lv_iload_n hx hb dX2_learn_8 rfl (lv_at hl 1 rfl) ?_
  refine lv_ishl hx hb dX2_learn_9 ?_
  refine lv_ior hx hb dX2_learn_10 ?_
  refine va_iast hx hb hK hP hD hS 1 0 rfl rfl (i := p2) (x := ((fk (p2).toNatClampNeg) ||| ((1 : Int32) <<< (p1 &&& 31)))) hin2 dX2_learn_11 (fun H locs hP hD hS => ?_)
  have hP : va_P (dC, dI) vwCl [(h0, .inr (2, [.ref h1, .ref h2])), (h1, .inl (cI, 4, .inl (upd fk (p2).toNatClampNeg ((fk (p2).toNatClampNeg) ||| ((1 : Int32) <<< (p1 &&& 31)))))), (h2, .inl (cI, 4, .inl fh))] H := hP
  have hD : va_D A [(h0, .inr (2, [.ref h1, .ref h2])), (h1, .inl (cI, 4, .inl (upd fk (p2).toNatClampNeg ((fk (p2).toNatClampNeg) ||| ((1 : Int32) <<< (p1 &&& 31)))))), (h2, .inl (cI, 4, .inl fh))] := hD
  exact W.vret hx hb hr (fun t ht hW => ⟨⟨((upd fk (p2).toNatClampNeg ((fk (p2).toNatClampNeg) ||| ((1 : Int32) <<< (p1 &&& 31))))), rfl, (by unfold oX2_learn_fk; rfl), (by rw [ht]; exact hP.sub [0, 1, 2] rfl), va_K.moved hW.alike hK, hD.sub [0, 1, 2] (by decide) rfl⟩, hS.F ht⟩) hS.2.2 dX2_learn_12

/-! X2_forget -/
def oX2_forget_fk (fk : Nat → Int32) (fh : Nat → Int32) (p1 : Int32) (p2 : Int32) : Nat → Int32 := (upd fk (p2).toNatClampNeg ((fk (p2).toNatClampNeg) &&& (((1 : Int32) <<< (p1 &&& 31)) ^^^ (-1 : Int32))))
set_option maxRecDepth 20000 in
theorem iX2_forget_X2 : ∀ w ∈ u_ws RX2 TX2 2, w ∈ wsX2_forget := by decide +kernel
set_option maxRecDepth 20000 in
theorem kX2_forget_1 : Cond.fieldLink RX2 9 "MaskHall$Lore" "knowers" "[I" ∈ wsX2_forget := by decide +kernel
set_option maxHeartbeats 440000 in
set_option maxRecDepth 100000 in
theorem c_X2_forget (l : Launch) (dC : Nat → ClassId) (dI : Nat → Nat → Nat) (cI cJ : ClassId) (h0 h1 h2 : Nat) (sz : Nat) (fk : Nat → Int32) (fh : Nat → Int32) (p1 : Int32) (p2 : Int32) (hin2 : vp_in p2 4) : Met l yX2_forget wsX2_forget ({ frames := 0, cells := 0, slots := 0, locals := 0 }) (va_Pc [.ref h0, .int p1, .int p2] (zI (dC, dI) [(cI, .int), (cJ, .long)] [(h0, .inr (2, [.ref h1, .ref h2])), (h1, .inl (cI, 4, .inl fk)), (h2, .inl (cI, 4, .inl fh))] sz)) (va_Qv (fun (u : (Nat → Int32)) => u = oX2_forget_fk fk fh p1 p2) (fun u => zO (dC, dI) [(cI, .int), (cJ, .long)] [(h0, .inr (2, [.ref h1, .ref h2])), (h1, .inl (cI, 4, .inl u)), (h2, .inl (cI, 4, .inl fh))] (va_A [(h0, .inr (2, [.ref h1, .ref h2])), (h1, .inl (cI, 4, .inl fk)), (h2, .inl (cI, 4, .inl fh))] sz)) (va_A [(h0, .inr (2, [.ref h1, .ref h2])), (h1, .inl (cI, 4, .inl fk)), (h2, .inl (cI, 4, .inl fh))] sz)) 0 0 (va_A [(h0, .inr (2, [.ref h1, .ref h2])), (h1, .inl (cI, 4, .inl fk)), (h2, .inl (cI, 4, .inl fh))] sz) := by
  refine Met.ofW (cc := cX2_forget) (maxL := 3) (ret := none) (by decide) rfl ?_
  intro p e s m args below meth c s₁ B hml hv
  obtain ⟨rfl, hsz, hP, hK, hD0, hG⟩ := hv
  have hx := B.exec
  have hb := B.bytes
  have hr := B.returns
  have hts := atoms_spec (ws := wsX2_forget) B.pre
  have hown : s.vm.findClass RX2 = some m.cls := findClass_of_methodNamed B.named
  have hlocks := B.notSynchronized
  subst hsz
  have hD := hD0.self (sz := s.heap.size)
  generalize hAe : va_A [(h0, .inr (2, [.ref h1, .ref h2])), (h1, .inl (cI, 4, .inl fk)), (h2, .inl (cI, 4, .inl fh))] s.heap.size = A at hD hG ⊢
  have hA : ∀ q : Nat, s.heap.size ≤ q → A q := fun q h => by rw [← hAe]; exact Or.inr h
  have hS : va_S A s.heap s.heap [] := va_S.rf
  have hP : va_P (dC, dI) vwCl [(h0, .inr (2, [.ref h1, .ref h2])), (h1, .inl (cI, 4, .inl fk)), (h2, .inl (cI, 4, .inl fh))] s.heap := hP
  have hl := lv_entry ([.ref h0, .int p1, .int p2]) (n := 3) (Nat.le_of_ble_eq_true rfl)
  rw [lg_entry_eq]
  generalize (lg_sl ([.ref h0, .int p1, .int p2]) ++ List.replicate (3 - (lg_sl ([.ref h0, .int p1, .int p2])).length) Slot.unset).toArray = ls at hl ⊢
  have hl : lv_has ls 3 [(0, .ref h0), (1, .int p1), (2, .int p2)] := hl
  refine lv_aload_n hx hb dX2_forget_0 rfl (lv_at hl 0 rfl) ?_
  refine va_get (D := (dC, dI)) (ci := 2) (v := .ref h1) (C := RX2) (T := TX2) (N := 2) hx hb hts iX2_forget_X2 hown hK hP 0 rfl rfl 0 (by decide) (hts _ kX2_forget_1) (fun _ h9 => h9) rfl dX2_forget_1 ?_
  refine lv_iload_n hx hb dX2_forget_4 rfl (lv_at hl 2 rfl) ?_
  refine lv_dup2_11 hx hb dX2_forget_5 rfl rfl ?_
  refine va_iald hx hb hK hP 1 0 rfl rfl (i := p2) hin2 dX2_forget_6 ?_
  refine lv_iconst (v := 1) hx hb dX2_forget_7 (by decide) ?_
  refine lv_iload_n hx hb dX2_forget_8 rfl (lv_at hl 1 rfl) ?_
  refine lv_ishl hx hb dX2_forget_9 ?_
  refine lv_iconst (v := -1) hx hb dX2_forget_10 (by decide) ?_
  refine lv_ixor hx hb dX2_forget_11 ?_
  refine lv_iand hx hb dX2_forget_12 ?_
  refine va_iast hx hb hK hP hD hS 1 0 rfl rfl (i := p2) (x := ((fk (p2).toNatClampNeg) &&& (((1 : Int32) <<< (p1 &&& 31)) ^^^ (-1 : Int32)))) hin2 dX2_forget_13 (fun H locs hP hD hS => ?_)
  have hP : va_P (dC, dI) vwCl [(h0, .inr (2, [.ref h1, .ref h2])), (h1, .inl (cI, 4, .inl (upd fk (p2).toNatClampNeg ((fk (p2).toNatClampNeg) &&& (((1 : Int32) <<< (p1 &&& 31)) ^^^ (-1 : Int32)))))), (h2, .inl (cI, 4, .inl fh))] H := hP
  have hD : va_D A [(h0, .inr (2, [.ref h1, .ref h2])), (h1, .inl (cI, 4, .inl (upd fk (p2).toNatClampNeg ((fk (p2).toNatClampNeg) &&& (((1 : Int32) <<< (p1 &&& 31)) ^^^ (-1 : Int32)))))), (h2, .inl (cI, 4, .inl fh))] := hD
  exact W.vret hx hb hr (fun t ht hW => ⟨⟨((upd fk (p2).toNatClampNeg ((fk (p2).toNatClampNeg) &&& (((1 : Int32) <<< (p1 &&& 31)) ^^^ (-1 : Int32))))), rfl, (by unfold oX2_forget_fk; rfl), (by rw [ht]; exact hP.sub [0, 1, 2] rfl), va_K.moved hW.alike hK, hD.sub [0, 1, 2] (by decide) rfl⟩, hS.F ht⟩) hS.2.2 dX2_forget_14

/-! X2_copyFrom -/
def oX2_copyFrom_fk (fk : Nat → Int32) (fh : Nat → Int32) (gk : Nat → Int32) (gh : Nat → Int32) : Nat → Int32 := (va_cpy gk fk ((0 : Int32)).toNatClampNeg ((0 : Int32)).toNatClampNeg ((4 : Int32)).toNatClampNeg)
def oX2_copyFrom_fh (fk : Nat → Int32) (fh : Nat → Int32) (gk : Nat → Int32) (gh : Nat → Int32) : Nat → Int32 := (va_cpy gh fh ((0 : Int32)).toNatClampNeg ((0 : Int32)).toNatClampNeg ((4 : Int32)).toNatClampNeg)
set_option maxRecDepth 20000 in
theorem iX2_copyFrom_X2 : ∀ w ∈ u_ws RX2 TX2 2, w ∈ wsX2_copyFrom := by decide +kernel
set_option maxRecDepth 20000 in
theorem kX2_copyFrom_1 : Cond.fieldLink RX2 9 "MaskHall$Lore" "knowers" "[I" ∈ wsX2_copyFrom := by decide +kernel
set_option maxRecDepth 20000 in
theorem kX2_copyFrom_2 : Cond.methodLink RX2 24 arraycopyName ∈ wsX2_copyFrom := by decide +kernel
set_option maxRecDepth 20000 in
theorem kX2_copyFrom_3 : Cond.native arraycopyName ∈ wsX2_copyFrom := by decide +kernel
set_option maxRecDepth 20000 in
theorem kX2_copyFrom_4 : Cond.static arraycopyName ∈ wsX2_copyFrom := by decide +kernel
set_option maxRecDepth 20000 in
theorem kX2_copyFrom_5 : Cond.initialized "java/lang/System" ∈ wsX2_copyFrom := by decide +kernel
set_option maxRecDepth 20000 in
theorem kX2_copyFrom_6 : Cond.fieldLink RX2 15 "MaskHall$Lore" "holders" "[I" ∈ wsX2_copyFrom := by decide +kernel
set_option maxHeartbeats 520000 in
set_option maxRecDepth 100000 in
theorem c_X2_copyFrom (l : Launch) (dC : Nat → ClassId) (dI : Nat → Nat → Nat) (cI cJ : ClassId) (h0 h1 h2 g0 g1 g2 : Nat) (sz : Nat) (fk : Nat → Int32) (fh : Nat → Int32) (gk : Nat → Int32) (gh : Nat → Int32) : Met l yX2_copyFrom wsX2_copyFrom ({ frames := 1, cells := 0, slots := 0, locals := 60 }) (va_Pc [.ref h0, .ref g0] (zI (dC, dI) [(cI, .int), (cJ, .long)] [(h0, .inr (2, [.ref h1, .ref h2])), (h1, .inl (cI, 4, .inl fk)), (h2, .inl (cI, 4, .inl fh)), (g0, .inr (2, [.ref g1, .ref g2])), (g1, .inl (cI, 4, .inl gk)), (g2, .inl (cI, 4, .inl gh))] sz)) (va_Qv (fun (u : (Nat → Int32) × (Nat → Int32)) => u.1 = oX2_copyFrom_fk fk fh gk gh ∧ u.2 = oX2_copyFrom_fh fk fh gk gh) (fun u => zO (dC, dI) [(cI, .int), (cJ, .long)] [(h0, .inr (2, [.ref h1, .ref h2])), (h1, .inl (cI, 4, .inl u.1)), (h2, .inl (cI, 4, .inl u.2)), (g0, .inr (2, [.ref g1, .ref g2])), (g1, .inl (cI, 4, .inl gk)), (g2, .inl (cI, 4, .inl gh))] (va_A [(h0, .inr (2, [.ref h1, .ref h2])), (h1, .inl (cI, 4, .inl fk)), (h2, .inl (cI, 4, .inl fh)), (g0, .inr (2, [.ref g1, .ref g2])), (g1, .inl (cI, 4, .inl gk)), (g2, .inl (cI, 4, .inl gh))] sz)) (va_A [(h0, .inr (2, [.ref h1, .ref h2])), (h1, .inl (cI, 4, .inl fk)), (h2, .inl (cI, 4, .inl fh)), (g0, .inr (2, [.ref g1, .ref g2])), (g1, .inl (cI, 4, .inl gk)), (g2, .inl (cI, 4, .inl gh))] sz)) 0 0 (va_A [(h0, .inr (2, [.ref h1, .ref h2])), (h1, .inl (cI, 4, .inl fk)), (h2, .inl (cI, 4, .inl fh)), (g0, .inr (2, [.ref g1, .ref g2])), (g1, .inl (cI, 4, .inl gk)), (g2, .inl (cI, 4, .inl gh))] sz) := by
  refine Met.ofW (cc := cX2_copyFrom) (maxL := 2) (ret := none) (by decide) rfl ?_
  intro p e s m args below meth c s₁ B hml hv
  obtain ⟨rfl, hsz, hP, hK, hD0, hG⟩ := hv
  have hx := B.exec
  have hb := B.bytes
  have hr := B.returns
  have hts := atoms_spec (ws := wsX2_copyFrom) B.pre
  have hown : s.vm.findClass RX2 = some m.cls := findClass_of_methodNamed B.named
  have hlocks := B.notSynchronized
  subst hsz
  have hD := hD0.self (sz := s.heap.size)
  generalize hAe : va_A [(h0, .inr (2, [.ref h1, .ref h2])), (h1, .inl (cI, 4, .inl fk)), (h2, .inl (cI, 4, .inl fh)), (g0, .inr (2, [.ref g1, .ref g2])), (g1, .inl (cI, 4, .inl gk)), (g2, .inl (cI, 4, .inl gh))] s.heap.size = A at hD hG ⊢
  have hA : ∀ q : Nat, s.heap.size ≤ q → A q := fun q h => by rw [← hAe]; exact Or.inr h
  have hS : va_S A s.heap s.heap [] := va_S.rf
  have hP : va_P (dC, dI) vwCl [(h0, .inr (2, [.ref h1, .ref h2])), (h1, .inl (cI, 4, .inl fk)), (h2, .inl (cI, 4, .inl fh)), (g0, .inr (2, [.ref g1, .ref g2])), (g1, .inl (cI, 4, .inl gk)), (g2, .inl (cI, 4, .inl gh))] s.heap := hP
  have hl := lv_entry ([.ref h0, .ref g0]) (n := 2) (Nat.le_of_ble_eq_true rfl)
  rw [lg_entry_eq]
  generalize (lg_sl ([.ref h0, .ref g0]) ++ List.replicate (2 - (lg_sl ([.ref h0, .ref g0])).length) Slot.unset).toArray = ls at hl ⊢
  have hl : lv_has ls 2 [(0, .ref h0), (1, .ref g0)] := hl
  refine lv_aload_n hx hb dX2_copyFrom_0 rfl (lv_at hl 1 rfl) ?_
  refine va_get (D := (dC, dI)) (ci := 2) (v := .ref g1) (C := RX2) (T := TX2) (N := 2) hx hb hts iX2_copyFrom_X2 hown hK hP 3 rfl rfl 0 (by decide) (hts _ kX2_copyFrom_1) (fun _ h9 => h9) rfl dX2_copyFrom_1 ?_
  refine lv_iconst (v := 0) hx hb dX2_copyFrom_4 (by decide) ?_
  refine lv_aload_n hx hb dX2_copyFrom_5 rfl (lv_at hl 0 rfl) ?_
  refine va_get (D := (dC, dI)) (ci := 2) (v := .ref h1) (C := RX2) (T := TX2) (N := 2) hx hb hts iX2_copyFrom_X2 hown hK hP 0 rfl rfl 0 (by decide) (hts _ kX2_copyFrom_1) (fun _ h9 => h9) rfl dX2_copyFrom_6 ?_
  refine lv_iconst (v := 0) hx hb dX2_copyFrom_9 (by decide) ?_
  refine lv_iconst (v := 4) hx hb dX2_copyFrom_10 (by decide) ?_
  refine va_copyi hx hb (hml.trans hl.1.symm) hown (hts _ kX2_copyFrom_2) (hts _ kX2_copyFrom_3) (hts _ kX2_copyFrom_4) (hts _ kX2_copyFrom_5) hK hP hD hS 4 1 0 0 rfl rfl rfl rfl rfl (sp := (0 : Int32)) (dp := (0 : Int32)) (n := (4 : Int32)) (by decide) (by decide) (by decide) (by decide) (by decide) (fun _ _ => rfl) (Nat.le_of_ble_eq_true rfl) (Nat.le_of_ble_eq_true rfl) dX2_copyFrom_11 (fun H locs hP hD hS => ?_)
  have hP : va_P (dC, dI) vwCl [(h0, .inr (2, [.ref h1, .ref h2])), (h1, .inl (cI, 4, .inl (va_cpy gk fk ((0 : Int32)).toNatClampNeg ((0 : Int32)).toNatClampNeg ((4 : Int32)).toNatClampNeg))), (h2, .inl (cI, 4, .inl fh)), (g0, .inr (2, [.ref g1, .ref g2])), (g1, .inl (cI, 4, .inl gk)), (g2, .inl (cI, 4, .inl gh))] H := hP
  have hD : va_D A [(h0, .inr (2, [.ref h1, .ref h2])), (h1, .inl (cI, 4, .inl (va_cpy gk fk ((0 : Int32)).toNatClampNeg ((0 : Int32)).toNatClampNeg ((4 : Int32)).toNatClampNeg))), (h2, .inl (cI, 4, .inl fh)), (g0, .inr (2, [.ref g1, .ref g2])), (g1, .inl (cI, 4, .inl gk)), (g2, .inl (cI, 4, .inl gh))] := hD
  refine lv_aload_n hx hb dX2_copyFrom_14 rfl (lv_at hl 1 rfl) ?_
  refine va_get (D := (dC, dI)) (ci := 2) (v := .ref g2) (C := RX2) (T := TX2) (N := 2) hx hb hts iX2_copyFrom_X2 hown hK hP 3 rfl rfl 1 (by decide) (hts _ kX2_copyFrom_6) (fun _ h9 => h9) rfl dX2_copyFrom_15 ?_
  refine lv_iconst (v := 0) hx hb dX2_copyFrom_18 (by decide) ?_
  refine lv_aload_n hx hb dX2_copyFrom_19 rfl (lv_at hl 0 rfl) ?_
  refine va_get (D := (dC, dI)) (ci := 2) (v := .ref h2) (C := RX2) (T := TX2) (N := 2) hx hb hts iX2_copyFrom_X2 hown hK hP 0 rfl rfl 1 (by decide) (hts _ kX2_copyFrom_6) (fun _ h9 => h9) rfl dX2_copyFrom_20 ?_
  refine lv_iconst (v := 0) hx hb dX2_copyFrom_23 (by decide) ?_
  refine lv_iconst (v := 4) hx hb dX2_copyFrom_24 (by decide) ?_
  refine va_copyi hx hb (hml.trans hl.1.symm) hown (hts _ kX2_copyFrom_2) (hts _ kX2_copyFrom_3) (hts _ kX2_copyFrom_4) (hts _ kX2_copyFrom_5) hK hP hD hS 5 2 0 0 rfl rfl rfl rfl rfl (sp := (0 : Int32)) (dp := (0 : Int32)) (n := (4 : Int32)) (by decide) (by decide) (by decide) (by decide) (by decide) (fun _ _ => rfl) (Nat.le_of_ble_eq_true rfl) (Nat.le_of_ble_eq_true rfl) dX2_copyFrom_25 (fun H locs hP hD hS => ?_)
  have hP : va_P (dC, dI) vwCl [(h0, .inr (2, [.ref h1, .ref h2])), (h1, .inl (cI, 4, .inl (va_cpy gk fk ((0 : Int32)).toNatClampNeg ((0 : Int32)).toNatClampNeg ((4 : Int32)).toNatClampNeg))), (h2, .inl (cI, 4, .inl (va_cpy gh fh ((0 : Int32)).toNatClampNeg ((0 : Int32)).toNatClampNeg ((4 : Int32)).toNatClampNeg))), (g0, .inr (2, [.ref g1, .ref g2])), (g1, .inl (cI, 4, .inl gk)), (g2, .inl (cI, 4, .inl gh))] H := hP
  have hD : va_D A [(h0, .inr (2, [.ref h1, .ref h2])), (h1, .inl (cI, 4, .inl (va_cpy gk fk ((0 : Int32)).toNatClampNeg ((0 : Int32)).toNatClampNeg ((4 : Int32)).toNatClampNeg))), (h2, .inl (cI, 4, .inl (va_cpy gh fh ((0 : Int32)).toNatClampNeg ((0 : Int32)).toNatClampNeg ((4 : Int32)).toNatClampNeg))), (g0, .inr (2, [.ref g1, .ref g2])), (g1, .inl (cI, 4, .inl gk)), (g2, .inl (cI, 4, .inl gh))] := hD
  exact W.vret hx hb hr (fun t ht hW => ⟨⟨((va_cpy gk fk ((0 : Int32)).toNatClampNeg ((0 : Int32)).toNatClampNeg ((4 : Int32)).toNatClampNeg), (va_cpy gh fh ((0 : Int32)).toNatClampNeg ((0 : Int32)).toNatClampNeg ((4 : Int32)).toNatClampNeg)), rfl, ⟨(by unfold oX2_copyFrom_fk; rfl), (by unfold oX2_copyFrom_fh; rfl)⟩, (by rw [ht]; exact hP.sub [0, 1, 2, 3, 4, 5] rfl), va_K.moved hW.alike hK, hD.sub [0, 1, 2, 3, 4, 5] (by decide) rfl⟩, hS.F ht⟩) hS.2.2 dX2_copyFrom_28

/-! X0_add -/
def oX0_add_ki (ki : Nat → Int32) (fi : Nat → Int32) (se : Nat → Int32) (th : Nat → Int32) (size : Int32) (p1 : Int32) (p2 : Int32) (p3 : Int32) (p4 : Int32) : Nat → Int32 := (if (12 : Int32) ≤ size then ki else (upd ki (size).toNatClampNeg p1))
def oX0_add_fi (ki : Nat → Int32) (fi : Nat → Int32) (se : Nat → Int32) (th : Nat → Int32) (size : Int32) (p1 : Int32) (p2 : Int32) (p3 : Int32) (p4 : Int32) : Nat → Int32 := (if (12 : Int32) ≤ size then fi else (upd fi (size).toNatClampNeg p2))
def oX0_add_se (ki : Nat → Int32) (fi : Nat → Int32) (se : Nat → Int32) (th : Nat → Int32) (size : Int32) (p1 : Int32) (p2 : Int32) (p3 : Int32) (p4 : Int32) : Nat → Int32 := (if (12 : Int32) ≤ size then se else (upd se (size).toNatClampNeg p3))
def oX0_add_th (ki : Nat → Int32) (fi : Nat → Int32) (se : Nat → Int32) (th : Nat → Int32) (size : Int32) (p1 : Int32) (p2 : Int32) (p3 : Int32) (p4 : Int32) : Nat → Int32 := (if (12 : Int32) ≤ size then th else (upd th (size).toNatClampNeg p4))
def oX0_add_size (ki : Nat → Int32) (fi : Nat → Int32) (se : Nat → Int32) (th : Nat → Int32) (size : Int32) (p1 : Int32) (p2 : Int32) (p3 : Int32) (p4 : Int32) : Int32 := (if (12 : Int32) ≤ size then size else (size + (1 : Int32)))
set_option maxRecDepth 20000 in
theorem iX0_add_X0 : ∀ w ∈ u_ws RX0 TX0 5, w ∈ wsX0_add := by decide +kernel
set_option maxRecDepth 20000 in
theorem kX0_add_1 : Cond.fieldLink RX0 24 "MaskHall$Canvas" "size" "I" ∈ wsX0_add := by decide +kernel
set_option maxRecDepth 20000 in
theorem kX0_add_2 : Cond.fieldLink RX0 9 "MaskHall$Canvas" "kinds" "[I" ∈ wsX0_add := by decide +kernel
set_option maxRecDepth 20000 in
theorem kX0_add_3 : Cond.fieldLink RX0 15 "MaskHall$Canvas" "firsts" "[I" ∈ wsX0_add := by decide +kernel
set_option maxRecDepth 20000 in
theorem kX0_add_4 : Cond.fieldLink RX0 18 "MaskHall$Canvas" "seconds" "[I" ∈ wsX0_add := by decide +kernel
set_option maxRecDepth 20000 in
theorem kX0_add_5 : Cond.fieldLink RX0 21 "MaskHall$Canvas" "things" "[I" ∈ wsX0_add := by decide +kernel
set_option maxHeartbeats 880000 in
set_option maxRecDepth 100000 in
theorem c_X0_add (l : Launch) (dC : Nat → ClassId) (dI : Nat → Nat → Nat) (cI cJ : ClassId) (ca ck cf cs ct : Nat) (sz : Nat) (ki : Nat → Int32) (fi : Nat → Int32) (se : Nat → Int32) (th : Nat → Int32) (size : Int32) (p1 : Int32) (p2 : Int32) (p3 : Int32) (p4 : Int32) (hsz0 : 0 ≤ size.toInt) (hsz : size.toInt ≤ 12) : Met l yX0_add wsX0_add ({ frames := 0, cells := 0, slots := 0, locals := 0 }) (va_Pc [.ref ca, .int p1, .int p2, .int p3, .int p4] (zI (dC, dI) [(cI, .int), (cJ, .long)] [(ca, .inr (0, [.ref ck, .ref cf, .ref cs, .ref ct, .int size])), (ck, .inl (cI, 12, .inl ki)), (cf, .inl (cI, 12, .inl fi)), (cs, .inl (cI, 12, .inl se)), (ct, .inl (cI, 12, .inl th))] sz)) (va_Qv (fun (u : (Nat → Int32) × (Nat → Int32) × (Nat → Int32) × (Nat → Int32) × (Int32)) => u.1 = oX0_add_ki ki fi se th size p1 p2 p3 p4 ∧ u.2.1 = oX0_add_fi ki fi se th size p1 p2 p3 p4 ∧ u.2.2.1 = oX0_add_se ki fi se th size p1 p2 p3 p4 ∧ u.2.2.2.1 = oX0_add_th ki fi se th size p1 p2 p3 p4 ∧ u.2.2.2.2 = oX0_add_size ki fi se th size p1 p2 p3 p4) (fun u => zO (dC, dI) [(cI, .int), (cJ, .long)] [(ca, .inr (0, [.ref ck, .ref cf, .ref cs, .ref ct, .int u.2.2.2.2])), (ck, .inl (cI, 12, .inl u.1)), (cf, .inl (cI, 12, .inl u.2.1)), (cs, .inl (cI, 12, .inl u.2.2.1)), (ct, .inl (cI, 12, .inl u.2.2.2.1))] (va_A [(ca, .inr (0, [.ref ck, .ref cf, .ref cs, .ref ct, .int size])), (ck, .inl (cI, 12, .inl ki)), (cf, .inl (cI, 12, .inl fi)), (cs, .inl (cI, 12, .inl se)), (ct, .inl (cI, 12, .inl th))] sz)) (va_A [(ca, .inr (0, [.ref ck, .ref cf, .ref cs, .ref ct, .int size])), (ck, .inl (cI, 12, .inl ki)), (cf, .inl (cI, 12, .inl fi)), (cs, .inl (cI, 12, .inl se)), (ct, .inl (cI, 12, .inl th))] sz)) 0 0 (va_A [(ca, .inr (0, [.ref ck, .ref cf, .ref cs, .ref ct, .int size])), (ck, .inl (cI, 12, .inl ki)), (cf, .inl (cI, 12, .inl fi)), (cs, .inl (cI, 12, .inl se)), (ct, .inl (cI, 12, .inl th))] sz) := by
  refine Met.ofW (cc := cX0_add) (maxL := 5) (ret := none) (by decide) rfl ?_
  intro p e s m args below meth c s₁ B hml hv
  obtain ⟨rfl, hsz, hP, hK, hD0, hG⟩ := hv
  have hx := B.exec
  have hb := B.bytes
  have hr := B.returns
  have hts := atoms_spec (ws := wsX0_add) B.pre
  have hown : s.vm.findClass RX0 = some m.cls := findClass_of_methodNamed B.named
  have hlocks := B.notSynchronized
  subst hsz
  have hD := hD0.self (sz := s.heap.size)
  generalize hAe : va_A [(ca, .inr (0, [.ref ck, .ref cf, .ref cs, .ref ct, .int size])), (ck, .inl (cI, 12, .inl ki)), (cf, .inl (cI, 12, .inl fi)), (cs, .inl (cI, 12, .inl se)), (ct, .inl (cI, 12, .inl th))] s.heap.size = A at hD hG ⊢
  have hA : ∀ q : Nat, s.heap.size ≤ q → A q := fun q h => by rw [← hAe]; exact Or.inr h
  have hS : va_S A s.heap s.heap [] := va_S.rf
  have hP : va_P (dC, dI) vwCl [(ca, .inr (0, [.ref ck, .ref cf, .ref cs, .ref ct, .int size])), (ck, .inl (cI, 12, .inl ki)), (cf, .inl (cI, 12, .inl fi)), (cs, .inl (cI, 12, .inl se)), (ct, .inl (cI, 12, .inl th))] s.heap := hP
  have hl := lv_entry ([.ref ca, .int p1, .int p2, .int p3, .int p4]) (n := 5) (Nat.le_of_ble_eq_true rfl)
  rw [lg_entry_eq]
  generalize (lg_sl ([.ref ca, .int p1, .int p2, .int p3, .int p4]) ++ List.replicate (5 - (lg_sl ([.ref ca, .int p1, .int p2, .int p3, .int p4])).length) Slot.unset).toArray = ls at hl ⊢
  have hl : lv_has ls 5 [(0, .ref ca), (1, .int p1), (2, .int p2), (3, .int p3), (4, .int p4)] := hl
  refine lv_aload_n hx hb dX0_add_0 rfl (lv_at hl 0 rfl) ?_
  refine va_get (D := (dC, dI)) (ci := 0) (v := .int size) (C := RX0) (T := TX0) (N := 5) hx hb hts iX0_add_X0 hown hK hP 0 rfl rfl 4 (by decide) (hts _ kX0_add_1) (fun _ h9 => h9) rfl dX0_add_1 ?_
  refine lv_bipush (v := 12) hx hb dX0_add_4 (by decide) ?_
  refine lv_icmp_ge (tgt := 60) hx hb dX0_add_6 (by decide) (fun c_1 => ?_) (fun c_1 => ?_)
  · exact W.vret hx hb hr (fun t ht hW => ⟨⟨(ki, fi, se, th, size), rfl, ⟨(by unfold oX0_add_ki; rw [if_pos c_1]), (by unfold oX0_add_fi; rw [if_pos c_1]), (by unfold oX0_add_se; rw [if_pos c_1]), (by unfold oX0_add_th; rw [if_pos c_1]), (by unfold oX0_add_size; rw [if_pos c_1])⟩, (by rw [ht]; exact hP.sub [0, 1, 2, 3, 4] rfl), va_K.moved hW.alike hK, hD.sub [0, 1, 2, 3, 4] (by decide) rfl⟩, hS.F ht⟩) hS.2.2 dX0_add_60
  · refine lv_aload_n hx hb dX0_add_9 rfl (lv_at hl 0 rfl) ?_
    refine va_get (D := (dC, dI)) (ci := 0) (v := .ref ck) (C := RX0) (T := TX0) (N := 5) hx hb hts iX0_add_X0 hown hK hP 0 rfl rfl 0 (by decide) (hts _ kX0_add_2) (fun _ h9 => h9) rfl dX0_add_10 ?_
    refine lv_aload_n hx hb dX0_add_13 rfl (lv_at hl 0 rfl) ?_
    refine va_get (D := (dC, dI)) (ci := 0) (v := .int size) (C := RX0) (T := TX0) (N := 5) hx hb hts iX0_add_X0 hown hK hP 0 rfl rfl 4 (by decide) (hts _ kX0_add_1) (fun _ h9 => h9) rfl dX0_add_14 ?_
    refine lv_iload_n hx hb dX0_add_17 rfl (lv_at hl 1 rfl) ?_
    refine va_iast hx hb hK hP hD hS 1 0 rfl rfl (i := size) (x := p1) (by first | assumption | exact zin_a (by assumption) (by assumption) (by assumption) | exact zin_c (by assumption) (by assumption) (by assumption) | exact zin_c (by assumption) (by assumption) (by decide) | exact zin_e (by assumption) (by assumption) (by decide) | exact zin_e (by assumption) (by assumption) (by assumption) | exact zin_f (by assumption) (by assumption) (by assumption)) dX0_add_18 (fun H locs hP hD hS => ?_)
    have hP : va_P (dC, dI) vwCl [(ca, .inr (0, [.ref ck, .ref cf, .ref cs, .ref ct, .int size])), (ck, .inl (cI, 12, .inl (upd ki (size).toNatClampNeg p1))), (cf, .inl (cI, 12, .inl fi)), (cs, .inl (cI, 12, .inl se)), (ct, .inl (cI, 12, .inl th))] H := hP
    have hD : va_D A [(ca, .inr (0, [.ref ck, .ref cf, .ref cs, .ref ct, .int size])), (ck, .inl (cI, 12, .inl (upd ki (size).toNatClampNeg p1))), (cf, .inl (cI, 12, .inl fi)), (cs, .inl (cI, 12, .inl se)), (ct, .inl (cI, 12, .inl th))] := hD
    refine lv_aload_n hx hb dX0_add_19 rfl (lv_at hl 0 rfl) ?_
    refine va_get (D := (dC, dI)) (ci := 0) (v := .ref cf) (C := RX0) (T := TX0) (N := 5) hx hb hts iX0_add_X0 hown hK hP 0 rfl rfl 1 (by decide) (hts _ kX0_add_3) (fun _ h9 => h9) rfl dX0_add_20 ?_
    refine lv_aload_n hx hb dX0_add_23 rfl (lv_at hl 0 rfl) ?_
    refine va_get (D := (dC, dI)) (ci := 0) (v := .int size) (C := RX0) (T := TX0) (N := 5) hx hb hts iX0_add_X0 hown hK hP 0 rfl rfl 4 (by decide) (hts _ kX0_add_1) (fun _ h9 => h9) rfl dX0_add_24 ?_
    refine lv_iload_n hx hb dX0_add_27 rfl (lv_at hl 2 rfl) ?_
    refine va_iast hx hb hK hP hD hS 2 0 rfl rfl (i := size) (x := p2) (by first | assumption | exact zin_a (by assumption) (by assumption) (by assumption) | exact zin_c (by assumption) (by assumption) (by assumption) | exact zin_c (by assumption) (by assumption) (by decide) | exact zin_e (by assumption) (by assumption) (by decide) | exact zin_e (by assumption) (by assumption) (by assumption) | exact zin_f (by assumption) (by assumption) (by assumption)) dX0_add_28 (fun H locs hP hD hS => ?_)
    have hP : va_P (dC, dI) vwCl [(ca, .inr (0, [.ref ck, .ref cf, .ref cs, .ref ct, .int size])), (ck, .inl (cI, 12, .inl (upd ki (size).toNatClampNeg p1))), (cf, .inl (cI, 12, .inl (upd fi (size).toNatClampNeg p2))), (cs, .inl (cI, 12, .inl se)), (ct, .inl (cI, 12, .inl th))] H := hP
    have hD : va_D A [(ca, .inr (0, [.ref ck, .ref cf, .ref cs, .ref ct, .int size])), (ck, .inl (cI, 12, .inl (upd ki (size).toNatClampNeg p1))), (cf, .inl (cI, 12, .inl (upd fi (size).toNatClampNeg p2))), (cs, .inl (cI, 12, .inl se)), (ct, .inl (cI, 12, .inl th))] := hD
    refine lv_aload_n hx hb dX0_add_29 rfl (lv_at hl 0 rfl) ?_
    refine va_get (D := (dC, dI)) (ci := 0) (v := .ref cs) (C := RX0) (T := TX0) (N := 5) hx hb hts iX0_add_X0 hown hK hP 0 rfl rfl 2 (by decide) (hts _ kX0_add_4) (fun _ h9 => h9) rfl dX0_add_30 ?_
    refine lv_aload_n hx hb dX0_add_33 rfl (lv_at hl 0 rfl) ?_
    refine va_get (D := (dC, dI)) (ci := 0) (v := .int size) (C := RX0) (T := TX0) (N := 5) hx hb hts iX0_add_X0 hown hK hP 0 rfl rfl 4 (by decide) (hts _ kX0_add_1) (fun _ h9 => h9) rfl dX0_add_34 ?_
    refine lv_iload_n hx hb dX0_add_37 rfl (lv_at hl 3 rfl) ?_
    refine va_iast hx hb hK hP hD hS 3 0 rfl rfl (i := size) (x := p3) (by first | assumption | exact zin_a (by assumption) (by assumption) (by assumption) | exact zin_c (by assumption) (by assumption) (by assumption) | exact zin_c (by assumption) (by assumption) (by decide) | exact zin_e (by assumption) (by assumption) (by decide) | exact zin_e (by assumption) (by assumption) (by assumption) | exact zin_f (by assumption) (by assumption) (by assumption)) dX0_add_38 (fun H locs hP hD hS => ?_)
    have hP : va_P (dC, dI) vwCl [(ca, .inr (0, [.ref ck, .ref cf, .ref cs, .ref ct, .int size])), (ck, .inl (cI, 12, .inl (upd ki (size).toNatClampNeg p1))), (cf, .inl (cI, 12, .inl (upd fi (size).toNatClampNeg p2))), (cs, .inl (cI, 12, .inl (upd se (size).toNatClampNeg p3))), (ct, .inl (cI, 12, .inl th))] H := hP
    have hD : va_D A [(ca, .inr (0, [.ref ck, .ref cf, .ref cs, .ref ct, .int size])), (ck, .inl (cI, 12, .inl (upd ki (size).toNatClampNeg p1))), (cf, .inl (cI, 12, .inl (upd fi (size).toNatClampNeg p2))), (cs, .inl (cI, 12, .inl (upd se (size).toNatClampNeg p3))), (ct, .inl (cI, 12, .inl th))] := hD
    refine lv_aload_n hx hb dX0_add_39 rfl (lv_at hl 0 rfl) ?_
    refine va_get (D := (dC, dI)) (ci := 0) (v := .ref ct) (C := RX0) (T := TX0) (N := 5) hx hb hts iX0_add_X0 hown hK hP 0 rfl rfl 3 (by decide) (hts _ kX0_add_5) (fun _ h9 => h9) rfl dX0_add_40 ?_
    refine lv_aload_n hx hb dX0_add_43 rfl (lv_at hl 0 rfl) ?_
    refine va_get (D := (dC, dI)) (ci := 0) (v := .int size) (C := RX0) (T := TX0) (N := 5) hx hb hts iX0_add_X0 hown hK hP 0 rfl rfl 4 (by decide) (hts _ kX0_add_1) (fun _ h9 => h9) rfl dX0_add_44 ?_
    refine lv_iload hx hb dX0_add_47 (lv_at hl 4 rfl) ?_
    refine va_iast hx hb hK hP hD hS 4 0 rfl rfl (i := size) (x := p4) (by first | assumption | exact zin_a (by assumption) (by assumption) (by assumption) | exact zin_c (by assumption) (by assumption) (by assumption) | exact zin_c (by assumption) (by assumption) (by decide) | exact zin_e (by assumption) (by assumption) (by decide) | exact zin_e (by assumption) (by assumption) (by assumption) | exact zin_f (by assumption) (by assumption) (by assumption)) dX0_add_49 (fun H locs hP hD hS => ?_)
    have hP : va_P (dC, dI) vwCl [(ca, .inr (0, [.ref ck, .ref cf, .ref cs, .ref ct, .int size])), (ck, .inl (cI, 12, .inl (upd ki (size).toNatClampNeg p1))), (cf, .inl (cI, 12, .inl (upd fi (size).toNatClampNeg p2))), (cs, .inl (cI, 12, .inl (upd se (size).toNatClampNeg p3))), (ct, .inl (cI, 12, .inl (upd th (size).toNatClampNeg p4)))] H := hP
    have hD : va_D A [(ca, .inr (0, [.ref ck, .ref cf, .ref cs, .ref ct, .int size])), (ck, .inl (cI, 12, .inl (upd ki (size).toNatClampNeg p1))), (cf, .inl (cI, 12, .inl (upd fi (size).toNatClampNeg p2))), (cs, .inl (cI, 12, .inl (upd se (size).toNatClampNeg p3))), (ct, .inl (cI, 12, .inl (upd th (size).toNatClampNeg p4)))] := hD
    refine lv_aload_n hx hb dX0_add_50 rfl (lv_at hl 0 rfl) ?_
    refine lv_dup hx hb dX0_add_51 rfl ?_
    refine va_get (D := (dC, dI)) (ci := 0) (v := .int size) (C := RX0) (T := TX0) (N := 5) hx hb hts iX0_add_X0 hown hK hP 0 rfl rfl 4 (by decide) (hts _ kX0_add_1) (fun _ h9 => h9) rfl dX0_add_52 ?_
    refine lv_iconst (v := 1) hx hb dX0_add_55 (by decide) ?_
    refine lv_iadd hx hb dX0_add_56 ?_
    refine va_put (D := (dC, dI)) (ci := 0) (v := .int (size + (1 : Int32))) (ty := .int) (C := RX0) (T := TX0) (N := 5) hx hb hts iX0_add_X0 tyX0 tyX0_ok nmX0 hown hK hP hD hS 0 rfl rfl 4 (by decide) (hts _ kX0_add_1) (fun _ h9 => h9) rfl (by decide +kernel) rfl rfl (Nat.le_of_ble_eq_true rfl) dX0_add_57 (fun H locs hP hD hS => ?_)
    have hP : va_P (dC, dI) vwCl [(ca, .inr (0, [.ref ck, .ref cf, .ref cs, .ref ct, .int (size + (1 : Int32))])), (ck, .inl (cI, 12, .inl (upd ki (size).toNatClampNeg p1))), (cf, .inl (cI, 12, .inl (upd fi (size).toNatClampNeg p2))), (cs, .inl (cI, 12, .inl (upd se (size).toNatClampNeg p3))), (ct, .inl (cI, 12, .inl (upd th (size).toNatClampNeg p4)))] H := hP
    have hD : va_D A [(ca, .inr (0, [.ref ck, .ref cf, .ref cs, .ref ct, .int (size + (1 : Int32))])), (ck, .inl (cI, 12, .inl (upd ki (size).toNatClampNeg p1))), (cf, .inl (cI, 12, .inl (upd fi (size).toNatClampNeg p2))), (cs, .inl (cI, 12, .inl (upd se (size).toNatClampNeg p3))), (ct, .inl (cI, 12, .inl (upd th (size).toNatClampNeg p4)))] := hD
    exact W.vret hx hb hr (fun t ht hW => ⟨⟨((upd ki (size).toNatClampNeg p1), (upd fi (size).toNatClampNeg p2), (upd se (size).toNatClampNeg p3), (upd th (size).toNatClampNeg p4), (size + (1 : Int32))), rfl, ⟨(by unfold oX0_add_ki; rw [if_neg c_1]), (by unfold oX0_add_fi; rw [if_neg c_1]), (by unfold oX0_add_se; rw [if_neg c_1]), (by unfold oX0_add_th; rw [if_neg c_1]), (by unfold oX0_add_size; rw [if_neg c_1])⟩, (by rw [ht]; exact hP.sub [0, 1, 2, 3, 4] rfl), va_K.moved hW.alike hK, hD.sub [0, 1, 2, 3, 4] (by decide) rfl⟩, hS.F ht⟩) hS.2.2 dX0_add_60

/-! X0_isJust -/
def jX0_isJust_50_0 (ki : Nat → Int32) (fi : Nat → Int32) (se : Nat → Int32) (th : Nat → Int32) (size : Int32) (p1 : Int32) (p2 : Int32) (p3 : Int32) (p4 : Int32) (p5 : Int32) : Int32 := (if (fi (p1).toNatClampNeg) = p3 then (if (se (p1).toNatClampNeg) = p4 then (1 : Int32) else (0 : Int32)) else (0 : Int32))
theorem bjX0_isJust_50_0 (ki : Nat → Int32) (fi : Nat → Int32) (se : Nat → Int32) (th : Nat → Int32) (size : Int32) (p1 : Int32) (p2 : Int32) (p3 : Int32) (p4 : Int32) (p5 : Int32) : jX0_isJust_50_0 ki fi se th size p1 p2 p3 p4 p5 = 0 ∨ jX0_isJust_50_0 ki fi se th size p1 p2 p3 p4 p5 = 1 := by
  unfold jX0_isJust_50_0
  repeat' split
  all_goals first | exact Or.inl rfl | exact Or.inr rfl
def rX0_isJust (ki : Nat → Int32) (fi : Nat → Int32) (se : Nat → Int32) (th : Nat → Int32) (size : Int32) (p1 : Int32) (p2 : Int32) (p3 : Int32) (p4 : Int32) (p5 : Int32) : Int32 := (if p1 < 0 then (0 : Int32) else (if size ≤ p1 then (0 : Int32) else (if (ki (p1).toNatClampNeg) = p2 then (if p2 = (2 : Int32) then (if (fi (p1).toNatClampNeg) = p3 then (1 : Int32) else (0 : Int32)) else (if p2 = (3 : Int32) then (if (fi (p1).toNatClampNeg) = p3 then (1 : Int32) else (0 : Int32)) else (if p2 = (4 : Int32) then (if (jX0_isJust_50_0 ki fi se th size p1 p2 p3 p4 p5) = 0 then (if (fi (p1).toNatClampNeg) = p4 then (if (se (p1).toNatClampNeg) = p3 then (1 : Int32) else (0 : Int32)) else (0 : Int32)) else (1 : Int32)) else (if (jX0_isJust_50_0 ki fi se th size p1 p2 p3 p4 p5) = 0 then (0 : Int32) else (if (th (p1).toNatClampNeg) = p5 then (1 : Int32) else (0 : Int32)))))) else (0 : Int32))))
set_option maxRecDepth 20000 in
theorem iX0_isJust_X0 : ∀ w ∈ u_ws RX0 TX0 5, w ∈ wsX0_isJust := by decide +kernel
set_option maxRecDepth 20000 in
theorem kX0_isJust_1 : Cond.fieldLink RX0 24 "MaskHall$Canvas" "size" "I" ∈ wsX0_isJust := by decide +kernel
set_option maxRecDepth 20000 in
theorem kX0_isJust_2 : Cond.fieldLink RX0 9 "MaskHall$Canvas" "kinds" "[I" ∈ wsX0_isJust := by decide +kernel
set_option maxRecDepth 20000 in
theorem kX0_isJust_3 : Cond.fieldLink RX0 15 "MaskHall$Canvas" "firsts" "[I" ∈ wsX0_isJust := by decide +kernel
set_option maxRecDepth 20000 in
theorem kX0_isJust_4 : Cond.fieldLink RX0 18 "MaskHall$Canvas" "seconds" "[I" ∈ wsX0_isJust := by decide +kernel
set_option maxRecDepth 20000 in
theorem kX0_isJust_5 : Cond.fieldLink RX0 21 "MaskHall$Canvas" "things" "[I" ∈ wsX0_isJust := by decide +kernel
set_option maxHeartbeats 1960000 in
set_option maxRecDepth 100000 in
theorem c_X0_isJust (l : Launch) (dC : Nat → ClassId) (dI : Nat → Nat → Nat) (cI cJ : ClassId) (ca ck cf cs ct : Nat) (sz : Nat) (ki : Nat → Int32) (fi : Nat → Int32) (se : Nat → Int32) (th : Nat → Int32) (size : Int32) (p1 : Int32) (p2 : Int32) (p3 : Int32) (p4 : Int32) (p5 : Int32) (hsz0 : 0 ≤ size.toInt) (hsz : size.toInt ≤ 12) : Met l yX0_isJust wsX0_isJust ({ frames := 0, cells := 0, slots := 0, locals := 0 }) (va_Pc [.ref ca, .int p1, .int p2, .int p3, .int p4, .int p5] (zI (dC, dI) [(cI, .int), (cJ, .long)] [(ca, .inr (0, [.ref ck, .ref cf, .ref cs, .ref ct, .int size])), (ck, .inl (cI, 12, .inl ki)), (cf, .inl (cI, 12, .inl fi)), (cs, .inl (cI, 12, .inl se)), (ct, .inl (cI, 12, .inl th))] sz)) (vp_Si (fun r => r = rX0_isJust ki fi se th size p1 p2 p3 p4 p5)) 0 0 (fun _ => False) := by
  refine Met.ofW (cc := cX0_isJust) (maxL := 7) (ret := (some .boolean)) (by decide) rfl ?_
  intro p e s m args below meth c s₁ B hml hv
  obtain ⟨rfl, hsz, hP, hK, hD0, hG⟩ := hv
  have hx := B.exec
  have hb := B.bytes
  have hr := B.returns
  have hts := atoms_spec (ws := wsX0_isJust) B.pre
  have hown : s.vm.findClass RX0 = some m.cls := findClass_of_methodNamed B.named
  have hlocks := B.notSynchronized
  subst hsz
  have hD := hD0.self (sz := s.heap.size)
  generalize hAe : va_A [(ca, .inr (0, [.ref ck, .ref cf, .ref cs, .ref ct, .int size])), (ck, .inl (cI, 12, .inl ki)), (cf, .inl (cI, 12, .inl fi)), (cs, .inl (cI, 12, .inl se)), (ct, .inl (cI, 12, .inl th))] s.heap.size = A at hD hG
  have hA : ∀ q : Nat, s.heap.size ≤ q → A q := fun q h => by rw [← hAe]; exact Or.inr h
  have hS : va_S A s.heap s.heap [] := va_S.rf
  have hP : va_P (dC, dI) vwCl [(ca, .inr (0, [.ref ck, .ref cf, .ref cs, .ref ct, .int size])), (ck, .inl (cI, 12, .inl ki)), (cf, .inl (cI, 12, .inl fi)), (cs, .inl (cI, 12, .inl se)), (ct, .inl (cI, 12, .inl th))] s.heap := hP
  have hl := lv_entry ([.ref ca, .int p1, .int p2, .int p3, .int p4, .int p5]) (n := 7) (Nat.le_of_ble_eq_true rfl)
  rw [lg_entry_eq]
  generalize (lg_sl ([.ref ca, .int p1, .int p2, .int p3, .int p4, .int p5]) ++ List.replicate (7 - (lg_sl ([.ref ca, .int p1, .int p2, .int p3, .int p4, .int p5])).length) Slot.unset).toArray = ls at hl ⊢
  have hl : lv_has ls 7 [(0, .ref ca), (1, .int p1), (2, .int p2), (3, .int p3), (4, .int p4), (5, .int p5)] := hl
  refine lv_iload_n hx hb dX0_isJust_0 rfl (lv_at hl 1 rfl) ?_
  refine lv_if_lt (tgt := 22) hx hb dX0_isJust_1 (by decide) (fun c_1 => ?_) (fun c_1 => ?_)
  · refine lv_iconst (v := 0) hx hb dX0_isJust_22 (by decide) ?_
    exact W.zret (v := (0 : Int32)) hx hb hr (zNar (Or.inl rfl)) (fun t ht hW => ⟨_, rfl, (by unfold rX0_isJust; rw [if_pos c_1]), ht⟩) (fun q hq => absurd hq List.not_mem_nil) dX0_isJust_23
  · refine lv_iload_n hx hb dX0_isJust_4 rfl (lv_at hl 1 rfl) ?_
    refine lv_aload_n hx hb dX0_isJust_5 rfl (lv_at hl 0 rfl) ?_
    refine va_get (D := (dC, dI)) (ci := 0) (v := .int size) (C := RX0) (T := TX0) (N := 5) hx hb hts iX0_isJust_X0 hown hK hP 0 rfl rfl 4 (by decide) (hts _ kX0_isJust_1) (fun _ h9 => h9) rfl dX0_isJust_6 ?_
    refine lv_icmp_ge (tgt := 22) hx hb dX0_isJust_9 (by decide) (fun c_2 => ?_) (fun c_2 => ?_)
    · refine lv_iconst (v := 0) hx hb dX0_isJust_22 (by decide) ?_
      exact W.zret (v := (0 : Int32)) hx hb hr (zNar (Or.inl rfl)) (fun t ht hW => ⟨_, rfl, (by unfold rX0_isJust; rw [if_neg c_1, if_pos c_2]), ht⟩) (fun q hq => absurd hq List.not_mem_nil) dX0_isJust_23
    · refine lv_aload_n hx hb dX0_isJust_12 rfl (lv_at hl 0 rfl) ?_
      refine va_get (D := (dC, dI)) (ci := 0) (v := .ref ck) (C := RX0) (T := TX0) (N := 5) hx hb hts iX0_isJust_X0 hown hK hP 0 rfl rfl 0 (by decide) (hts _ kX0_isJust_2) (fun _ h9 => h9) rfl dX0_isJust_13 ?_
      refine lv_iload_n hx hb dX0_isJust_16 rfl (lv_at hl 1 rfl) ?_
      refine va_iald hx hb hK hP 1 0 rfl rfl (i := p1) (by first | assumption | exact zin_a (by assumption) (by assumption) (by assumption) | exact zin_c (by assumption) (by assumption) (by assumption) | exact zin_c (by assumption) (by assumption) (by decide) | exact zin_e (by assumption) (by assumption) (by decide) | exact zin_e (by assumption) (by assumption) (by assumption) | exact zin_f (by assumption) (by assumption) (by assumption)) dX0_isJust_17 ?_
      refine lv_iload_n hx hb dX0_isJust_18 rfl (lv_at hl 2 rfl) ?_
      refine lv_icmp_eq (tgt := 24) hx hb dX0_isJust_19 (by decide) (fun c_3 => ?_) (fun c_3 => ?_)
      · refine lv_aload_n hx hb dX0_isJust_24 rfl (lv_at hl 0 rfl) ?_
        refine va_get (D := (dC, dI)) (ci := 0) (v := .ref cf) (C := RX0) (T := TX0) (N := 5) hx hb hts iX0_isJust_X0 hown hK hP 0 rfl rfl 1 (by decide) (hts _ kX0_isJust_3) (fun _ h9 => h9) rfl dX0_isJust_25 ?_
        refine lv_iload_n hx hb dX0_isJust_28 rfl (lv_at hl 1 rfl) ?_
        refine va_iald hx hb hK hP 2 0 rfl rfl (i := p1) (by first | assumption | exact zin_a (by assumption) (by assumption) (by assumption) | exact zin_c (by assumption) (by assumption) (by assumption) | exact zin_c (by assumption) (by assumption) (by decide) | exact zin_e (by assumption) (by assumption) (by decide) | exact zin_e (by assumption) (by assumption) (by assumption) | exact zin_f (by assumption) (by assumption) (by assumption)) dX0_isJust_29 ?_
        refine lv_iload_n hx hb dX0_isJust_30 rfl (lv_at hl 3 rfl) ?_
        refine zNm (fun R9 Q9 hR9 hQ9 => ?_)
        have J50 : ∀ (v50_0 : Int32), v50_0 = (jX0_isJust_50_0 ki fi se th size p1 p2 p3 p4 p5) → ∀ (ls : Array Slot), lv_has ls 7 [(0, .ref ca), (1, .int p1), (2, .int p2), (3, .int p3), (4, .int p4), (5, .int p5)] → W p l e R9 s m ([.ref ca, .int p1, .int p2, .int p3, .int p4, .int p5] : List Value).toArray below meth c s.heap [] 0 0 Q9 (F0 m 50 ls [.int v50_0]) := by
          subst hR9; subst hQ9
          intro v50_0 hvv50_0
          rw [hvv50_0]; clear hvv50_0 v50_0
          intro ls hl
          refine lv_istore (lv' := [(6, .int (jX0_isJust_50_0 ki fi se th size p1 p2 p3 p4 p5)), (0, .ref ca), (1, .int p1), (2, .int p2), (3, .int p3), (4, .int p4), (5, .int p5)]) hx hb dX0_isJust_50 hl (by decide) rfl (fun ls hl => ?_)
          refine lv_iload_n hx hb dX0_isJust_52 rfl (lv_at hl 3 rfl) ?_
          by_cases c_4 : p2 = (2 : Int32)
          · refine lv_tableIn (off := 27) (tgt := 80) hx hb dX0_isJust_53 (by rw [c_4]; decide) (by rw [c_4]; decide) (by rw [c_4]; decide) (by decide) ?_
            refine lv_aload_n hx hb dX0_isJust_80 rfl (lv_at hl 1 rfl) ?_
            refine va_get (D := (dC, dI)) (ci := 0) (v := .ref cf) (C := RX0) (T := TX0) (N := 5) hx hb hts iX0_isJust_X0 hown hK hP 0 rfl rfl 1 (by decide) (hts _ kX0_isJust_3) (fun _ h9 => h9) rfl dX0_isJust_81 ?_
            refine lv_iload_n hx hb dX0_isJust_84 rfl (lv_at hl 2 rfl) ?_
            refine va_iald hx hb hK hP 2 0 rfl rfl (i := p1) (by first | assumption | exact zin_a (by assumption) (by assumption) (by assumption) | exact zin_c (by assumption) (by assumption) (by assumption) | exact zin_c (by assumption) (by assumption) (by decide) | exact zin_e (by assumption) (by assumption) (by decide) | exact zin_e (by assumption) (by assumption) (by assumption) | exact zin_f (by assumption) (by assumption) (by assumption)) dX0_isJust_85 ?_
            refine lv_iload_n hx hb dX0_isJust_86 rfl (lv_at hl 4 rfl) ?_
            refine lv_icmp_ne (tgt := 94) hx hb dX0_isJust_87 (by decide) (fun c_5 => ?_) (fun c_5 => ?_)
            · refine lv_iconst (v := 0) hx hb dX0_isJust_94 (by decide) ?_
              exact W.zret (v := (0 : Int32)) hx hb hr (zNar (Or.inl rfl)) (fun t ht hW => ⟨_, rfl, (by unfold rX0_isJust; rw [if_neg c_1, if_neg c_2, if_pos c_3, if_pos c_4, if_neg c_5]), ht⟩) (fun q hq => absurd hq List.not_mem_nil) dX0_isJust_95
            · refine lv_iconst (v := 1) hx hb dX0_isJust_90 (by decide) ?_
              refine lv_goto (tgt := 95) hx hb dX0_isJust_91 (by decide) ?_
              exact W.zret (v := (1 : Int32)) hx hb hr (zNar (Or.inr rfl)) (fun t ht hW => ⟨_, rfl, (by unfold rX0_isJust; rw [if_neg c_1, if_neg c_2, if_pos c_3, if_pos c_4, if_pos c_5]), ht⟩) (fun q hq => absurd hq List.not_mem_nil) dX0_isJust_95
          · by_cases c_6 : p2 = (3 : Int32)
            · refine lv_tableIn (off := 27) (tgt := 80) hx hb dX0_isJust_53 (by rw [c_6]; decide) (by rw [c_6]; decide) (by rw [c_6]; decide) (by decide) ?_
              refine lv_aload_n hx hb dX0_isJust_80 rfl (lv_at hl 1 rfl) ?_
              refine va_get (D := (dC, dI)) (ci := 0) (v := .ref cf) (C := RX0) (T := TX0) (N := 5) hx hb hts iX0_isJust_X0 hown hK hP 0 rfl rfl 1 (by decide) (hts _ kX0_isJust_3) (fun _ h9 => h9) rfl dX0_isJust_81 ?_
              refine lv_iload_n hx hb dX0_isJust_84 rfl (lv_at hl 2 rfl) ?_
              refine va_iald hx hb hK hP 2 0 rfl rfl (i := p1) (by first | assumption | exact zin_a (by assumption) (by assumption) (by assumption) | exact zin_c (by assumption) (by assumption) (by assumption) | exact zin_c (by assumption) (by assumption) (by decide) | exact zin_e (by assumption) (by assumption) (by decide) | exact zin_e (by assumption) (by assumption) (by assumption) | exact zin_f (by assumption) (by assumption) (by assumption)) dX0_isJust_85 ?_
              refine lv_iload_n hx hb dX0_isJust_86 rfl (lv_at hl 4 rfl) ?_
              refine lv_icmp_ne (tgt := 94) hx hb dX0_isJust_87 (by decide) (fun c_7 => ?_) (fun c_7 => ?_)
              · refine lv_iconst (v := 0) hx hb dX0_isJust_94 (by decide) ?_
                exact W.zret (v := (0 : Int32)) hx hb hr (zNar (Or.inl rfl)) (fun t ht hW => ⟨_, rfl, (by unfold rX0_isJust; rw [if_neg c_1, if_neg c_2, if_pos c_3, if_neg c_4, if_pos c_6, if_neg c_7]), ht⟩) (fun q hq => absurd hq List.not_mem_nil) dX0_isJust_95
              · refine lv_iconst (v := 1) hx hb dX0_isJust_90 (by decide) ?_
                refine lv_goto (tgt := 95) hx hb dX0_isJust_91 (by decide) ?_
                exact W.zret (v := (1 : Int32)) hx hb hr (zNar (Or.inr rfl)) (fun t ht hW => ⟨_, rfl, (by unfold rX0_isJust; rw [if_neg c_1, if_neg c_2, if_pos c_3, if_neg c_4, if_pos c_6, if_pos c_7]), ht⟩) (fun q hq => absurd hq List.not_mem_nil) dX0_isJust_95
            · by_cases c_8 : p2 = (4 : Int32)
              · refine lv_tableIn (off := 43) (tgt := 96) hx hb dX0_isJust_53 (by rw [c_8]; decide) (by rw [c_8]; decide) (by rw [c_8]; decide) (by decide) ?_
                refine lv_iload hx hb dX0_isJust_96 (lv_at hl 0 rfl) ?_
                refine lv_if_ne (tgt := 122) hx hb dX0_isJust_98 (by decide) (fun c_9 => ?_) (fun c_9 => ?_)
                · refine lv_iconst (v := 1) hx hb dX0_isJust_122 (by decide) ?_
                  refine lv_goto (tgt := 127) hx hb dX0_isJust_123 (by decide) ?_
                  exact W.zret (v := (1 : Int32)) hx hb hr (zNar (Or.inr rfl)) (fun t ht hW => ⟨_, rfl, (by unfold rX0_isJust; rw [if_neg c_1, if_neg c_2, if_pos c_3, if_neg c_4, if_neg c_6, if_pos c_8, if_neg c_9]), ht⟩) (fun q hq => absurd hq List.not_mem_nil) dX0_isJust_127
                · refine lv_aload_n hx hb dX0_isJust_101 rfl (lv_at hl 1 rfl) ?_
                  refine va_get (D := (dC, dI)) (ci := 0) (v := .ref cf) (C := RX0) (T := TX0) (N := 5) hx hb hts iX0_isJust_X0 hown hK hP 0 rfl rfl 1 (by decide) (hts _ kX0_isJust_3) (fun _ h9 => h9) rfl dX0_isJust_102 ?_
                  refine lv_iload_n hx hb dX0_isJust_105 rfl (lv_at hl 2 rfl) ?_
                  refine va_iald hx hb hK hP 2 0 rfl rfl (i := p1) (by first | assumption | exact zin_a (by assumption) (by assumption) (by assumption) | exact zin_c (by assumption) (by assumption) (by assumption) | exact zin_c (by assumption) (by assumption) (by decide) | exact zin_e (by assumption) (by assumption) (by decide) | exact zin_e (by assumption) (by assumption) (by assumption) | exact zin_f (by assumption) (by assumption) (by assumption)) dX0_isJust_106 ?_
                  refine lv_iload hx hb dX0_isJust_107 (lv_at hl 5 rfl) ?_
                  refine lv_icmp_ne (tgt := 126) hx hb dX0_isJust_109 (by decide) (fun c_10 => ?_) (fun c_10 => ?_)
                  · refine lv_iconst (v := 0) hx hb dX0_isJust_126 (by decide) ?_
                    exact W.zret (v := (0 : Int32)) hx hb hr (zNar (Or.inl rfl)) (fun t ht hW => ⟨_, rfl, (by unfold rX0_isJust; rw [if_neg c_1, if_neg c_2, if_pos c_3, if_neg c_4, if_neg c_6, if_pos c_8, if_pos c_9, if_neg c_10]), ht⟩) (fun q hq => absurd hq List.not_mem_nil) dX0_isJust_127
                  · refine lv_aload_n hx hb dX0_isJust_112 rfl (lv_at hl 1 rfl) ?_
                    refine va_get (D := (dC, dI)) (ci := 0) (v := .ref cs) (C := RX0) (T := TX0) (N := 5) hx hb hts iX0_isJust_X0 hown hK hP 0 rfl rfl 2 (by decide) (hts _ kX0_isJust_4) (fun _ h9 => h9) rfl dX0_isJust_113 ?_
                    refine lv_iload_n hx hb dX0_isJust_116 rfl (lv_at hl 2 rfl) ?_
                    refine va_iald hx hb hK hP 3 0 rfl rfl (i := p1) (by first | assumption | exact zin_a (by assumption) (by assumption) (by assumption) | exact zin_c (by assumption) (by assumption) (by assumption) | exact zin_c (by assumption) (by assumption) (by decide) | exact zin_e (by assumption) (by assumption) (by decide) | exact zin_e (by assumption) (by assumption) (by assumption) | exact zin_f (by assumption) (by assumption) (by assumption)) dX0_isJust_117 ?_
                    refine lv_iload_n hx hb dX0_isJust_118 rfl (lv_at hl 4 rfl) ?_
                    refine lv_icmp_ne (tgt := 126) hx hb dX0_isJust_119 (by decide) (fun c_11 => ?_) (fun c_11 => ?_)
                    · refine lv_iconst (v := 0) hx hb dX0_isJust_126 (by decide) ?_
                      exact W.zret (v := (0 : Int32)) hx hb hr (zNar (Or.inl rfl)) (fun t ht hW => ⟨_, rfl, (by unfold rX0_isJust; rw [if_neg c_1, if_neg c_2, if_pos c_3, if_neg c_4, if_neg c_6, if_pos c_8, if_pos c_9, if_pos c_10, if_neg c_11]), ht⟩) (fun q hq => absurd hq List.not_mem_nil) dX0_isJust_127
                    · refine lv_iconst (v := 1) hx hb dX0_isJust_122 (by decide) ?_
                      refine lv_goto (tgt := 127) hx hb dX0_isJust_123 (by decide) ?_
                      exact W.zret (v := (1 : Int32)) hx hb hr (zNar (Or.inr rfl)) (fun t ht hW => ⟨_, rfl, (by unfold rX0_isJust; rw [if_neg c_1, if_neg c_2, if_pos c_3, if_neg c_4, if_neg c_6, if_pos c_8, if_pos c_9, if_pos c_10, if_pos c_11]), ht⟩) (fun q hq => absurd hq List.not_mem_nil) dX0_isJust_127
              · refine lv_tableOut (tgt := 128) hx hb dX0_isJust_53 (zOut2_4 c_4 c_6 c_8) (by decide) ?_
                refine lv_iload hx hb dX0_isJust_128 (lv_at hl 0 rfl) ?_
                refine lv_if_eq (tgt := 148) hx hb dX0_isJust_130 (by decide) (fun c_12 => ?_) (fun c_12 => ?_)
                · refine lv_iconst (v := 0) hx hb dX0_isJust_148 (by decide) ?_
                  exact W.zret (v := (0 : Int32)) hx hb hr (zNar (Or.inl rfl)) (fun t ht hW => ⟨_, rfl, (by unfold rX0_isJust; rw [if_neg c_1, if_neg c_2, if_pos c_3, if_neg c_4, if_neg c_6, if_neg c_8, if_pos c_12]), ht⟩) (fun q hq => absurd hq List.not_mem_nil) dX0_isJust_149
                · refine lv_aload_n hx hb dX0_isJust_133 rfl (lv_at hl 1 rfl) ?_
                  refine va_get (D := (dC, dI)) (ci := 0) (v := .ref ct) (C := RX0) (T := TX0) (N := 5) hx hb hts iX0_isJust_X0 hown hK hP 0 rfl rfl 3 (by decide) (hts _ kX0_isJust_5) (fun _ h9 => h9) rfl dX0_isJust_134 ?_
                  refine lv_iload_n hx hb dX0_isJust_137 rfl (lv_at hl 2 rfl) ?_
                  refine va_iald hx hb hK hP 4 0 rfl rfl (i := p1) (by first | assumption | exact zin_a (by assumption) (by assumption) (by assumption) | exact zin_c (by assumption) (by assumption) (by assumption) | exact zin_c (by assumption) (by assumption) (by decide) | exact zin_e (by assumption) (by assumption) (by decide) | exact zin_e (by assumption) (by assumption) (by assumption) | exact zin_f (by assumption) (by assumption) (by assumption)) dX0_isJust_138 ?_
                  refine lv_iload hx hb dX0_isJust_139 (lv_at hl 6 rfl) ?_
                  refine lv_icmp_ne (tgt := 148) hx hb dX0_isJust_141 (by decide) (fun c_13 => ?_) (fun c_13 => ?_)
                  · refine lv_iconst (v := 0) hx hb dX0_isJust_148 (by decide) ?_
                    exact W.zret (v := (0 : Int32)) hx hb hr (zNar (Or.inl rfl)) (fun t ht hW => ⟨_, rfl, (by unfold rX0_isJust; rw [if_neg c_1, if_neg c_2, if_pos c_3, if_neg c_4, if_neg c_6, if_neg c_8, if_neg c_12, if_neg c_13]), ht⟩) (fun q hq => absurd hq List.not_mem_nil) dX0_isJust_149
                  · refine lv_iconst (v := 1) hx hb dX0_isJust_144 (by decide) ?_
                    refine lv_goto (tgt := 149) hx hb dX0_isJust_145 (by decide) ?_
                    exact W.zret (v := (1 : Int32)) hx hb hr (zNar (Or.inr rfl)) (fun t ht hW => ⟨_, rfl, (by unfold rX0_isJust; rw [if_neg c_1, if_neg c_2, if_pos c_3, if_neg c_4, if_neg c_6, if_neg c_8, if_neg c_12, if_pos c_13]), ht⟩) (fun q hq => absurd hq List.not_mem_nil) dX0_isJust_149
        subst hR9; subst hQ9
        refine lv_icmp_ne (tgt := 49) hx hb dX0_isJust_31 (by decide) (fun c_14 => ?_) (fun c_14 => ?_)
        · refine lv_iconst (v := 0) hx hb dX0_isJust_49 (by decide) ?_
          exact J50 (0 : Int32) (by unfold jX0_isJust_50_0; rw [if_neg c_14]) _ (lv_sub hl [0, 1, 2, 3, 4, 5] rfl)
        · refine lv_aload_n hx hb dX0_isJust_34 rfl (lv_at hl 0 rfl) ?_
          refine va_get (D := (dC, dI)) (ci := 0) (v := .ref cs) (C := RX0) (T := TX0) (N := 5) hx hb hts iX0_isJust_X0 hown hK hP 0 rfl rfl 2 (by decide) (hts _ kX0_isJust_4) (fun _ h9 => h9) rfl dX0_isJust_35 ?_
          refine lv_iload_n hx hb dX0_isJust_38 rfl (lv_at hl 1 rfl) ?_
          refine va_iald hx hb hK hP 3 0 rfl rfl (i := p1) (by first | assumption | exact zin_a (by assumption) (by assumption) (by assumption) | exact zin_c (by assumption) (by assumption) (by assumption) | exact zin_c (by assumption) (by assumption) (by decide) | exact zin_e (by assumption) (by assumption) (by decide) | exact zin_e (by assumption) (by assumption) (by assumption) | exact zin_f (by assumption) (by assumption) (by assumption)) dX0_isJust_39 ?_
          refine lv_iload hx hb dX0_isJust_40 (lv_at hl 4 rfl) ?_
          refine lv_icmp_ne (tgt := 49) hx hb dX0_isJust_42 (by decide) (fun c_15 => ?_) (fun c_15 => ?_)
          · refine lv_iconst (v := 0) hx hb dX0_isJust_49 (by decide) ?_
            exact J50 (0 : Int32) (by unfold jX0_isJust_50_0; rw [if_pos c_14, if_neg c_15]) _ (lv_sub hl [0, 1, 2, 3, 4, 5] rfl)
          · refine lv_iconst (v := 1) hx hb dX0_isJust_45 (by decide) ?_
            refine lv_goto (tgt := 50) hx hb dX0_isJust_46 (by decide) ?_
            exact J50 (1 : Int32) (by unfold jX0_isJust_50_0; rw [if_pos c_14, if_pos c_15]) _ (lv_sub hl [0, 1, 2, 3, 4, 5] rfl)
      · refine lv_iconst (v := 0) hx hb dX0_isJust_22 (by decide) ?_
        exact W.zret (v := (0 : Int32)) hx hb hr (zNar (Or.inl rfl)) (fun t ht hW => ⟨_, rfl, (by unfold rX0_isJust; rw [if_neg c_1, if_neg c_2, if_neg c_3]), ht⟩) (fun q hq => absurd hq List.not_mem_nil) dX0_isJust_23
theorem brX0_isJust (ki : Nat → Int32) (fi : Nat → Int32) (se : Nat → Int32) (th : Nat → Int32) (size : Int32) (p1 : Int32) (p2 : Int32) (p3 : Int32) (p4 : Int32) (p5 : Int32) : rX0_isJust ki fi se th size p1 p2 p3 p4 p5 = 0 ∨ rX0_isJust ki fi se th size p1 p2 p3 p4 p5 = 1 := by
  unfold rX0_isJust
  repeat' split
  all_goals first | exact Or.inl rfl | exact Or.inr rfl | exact bjX0_isJust_50_0 _ _ _ _ _ _ _ _ _ _

/-! X0_listenersFrom -/
def jX0_listenersFrom_51_0 (ki : Nat → Int32) (fi : Nat → Int32) (se : Nat → Int32) (th : Nat → Int32) (size : Int32) (p1 : Int32) (p2 : Int32) (acc : Int32) (i : Int32) : Int32 := (if (ki (i).toNatClampNeg) = 0 then (if (th (i).toNatClampNeg) = p2 then (acc ||| ((1 : Int32) <<< ((se (i).toNatClampNeg) &&& 31))) else acc) else acc)
def lX0_listenersFrom_9_r (ki : Nat → Int32) (fi : Nat → Int32) (se : Nat → Int32) (th : Nat → Int32) (size : Int32) (p1 : Int32) (p2 : Int32) : Nat → (Int32) → (Int32) → (Int32)
  | 0, _, _ => 0
  | n9 + 1, acc, i => (if size ≤ i then acc else (lX0_listenersFrom_9_r ki fi se th size p1 p2 n9 (jX0_listenersFrom_51_0 ki fi se th size p1 p2 acc i) (i + 1)))
def rX0_listenersFrom (ki : Nat → Int32) (fi : Nat → Int32) (se : Nat → Int32) (th : Nat → Int32) (size : Int32) (p1 : Int32) (p2 : Int32) : Int32 := (lX0_listenersFrom_9_r ki fi se th size p1 p2 14 (0 : Int32) (if p1 < (0 : Int32) then (0 : Int32) else p1))
set_option maxRecDepth 20000 in
theorem kX0_listenersFrom_0 : Cond.methodLink RX0 28 Lib.Math.max.name ∈ wsX0_listenersFrom := by decide +kernel
set_option maxRecDepth 20000 in
theorem kX0_listenersFrom_1 : Cond.static Lib.Math.max.name ∈ wsX0_listenersFrom := by decide +kernel
set_option maxRecDepth 20000 in
theorem kX0_listenersFrom_2 : Cond.initialized "java/lang/Math" ∈ wsX0_listenersFrom := by decide +kernel
set_option maxRecDepth 20000 in
theorem kX0_listenersFrom_3 : Cond.code Lib.Math.max.name Lib.Math.max.code 2 (some .int) ∈ wsX0_listenersFrom := by decide +kernel
set_option maxRecDepth 20000 in
theorem iX0_listenersFrom_X0 : ∀ w ∈ u_ws RX0 TX0 5, w ∈ wsX0_listenersFrom := by decide +kernel
set_option maxRecDepth 20000 in
theorem kX0_listenersFrom_5 : Cond.fieldLink RX0 24 "MaskHall$Canvas" "size" "I" ∈ wsX0_listenersFrom := by decide +kernel
set_option maxRecDepth 20000 in
theorem kX0_listenersFrom_6 : Cond.fieldLink RX0 9 "MaskHall$Canvas" "kinds" "[I" ∈ wsX0_listenersFrom := by decide +kernel
set_option maxRecDepth 20000 in
theorem kX0_listenersFrom_7 : Cond.fieldLink RX0 21 "MaskHall$Canvas" "things" "[I" ∈ wsX0_listenersFrom := by decide +kernel
set_option maxRecDepth 20000 in
theorem kX0_listenersFrom_8 : Cond.fieldLink RX0 18 "MaskHall$Canvas" "seconds" "[I" ∈ wsX0_listenersFrom := by decide +kernel
set_option maxHeartbeats 900000 in
set_option maxRecDepth 100000 in
theorem c_X0_listenersFrom (l : Launch) (dC : Nat → ClassId) (dI : Nat → Nat → Nat) (cI cJ : ClassId) (ca ck cf cs ct : Nat) (sz : Nat) (ki : Nat → Int32) (fi : Nat → Int32) (se : Nat → Int32) (th : Nat → Int32) (size : Int32) (p1 : Int32) (p2 : Int32) (hsz0 : 0 ≤ size.toInt) (hsz : size.toInt ≤ 12) : Met l yX0_listenersFrom wsX0_listenersFrom ({ frames := 1, cells := 0, slots := 0, locals := 21 }) (va_Pc [.ref ca, .int p1, .int p2] (zI (dC, dI) [(cI, .int), (cJ, .long)] [(ca, .inr (0, [.ref ck, .ref cf, .ref cs, .ref ct, .int size])), (ck, .inl (cI, 12, .inl ki)), (cf, .inl (cI, 12, .inl fi)), (cs, .inl (cI, 12, .inl se)), (ct, .inl (cI, 12, .inl th))] sz)) (vp_Si (fun r => r = rX0_listenersFrom ki fi se th size p1 p2)) 0 0 (fun _ => False) := by
  refine Met.ofW (cc := cX0_listenersFrom) (maxL := 5) (ret := (some .int)) (by decide) rfl ?_
  intro p e s m args below meth c s₁ B hml hv
  obtain ⟨rfl, hsz, hP, hK, hD0, hG⟩ := hv
  have hx := B.exec
  have hb := B.bytes
  have hr := B.returns
  have hts := atoms_spec (ws := wsX0_listenersFrom) B.pre
  have hown : s.vm.findClass RX0 = some m.cls := findClass_of_methodNamed B.named
  have hlocks := B.notSynchronized
  subst hsz
  have hD := hD0.self (sz := s.heap.size)
  generalize hAe : va_A [(ca, .inr (0, [.ref ck, .ref cf, .ref cs, .ref ct, .int size])), (ck, .inl (cI, 12, .inl ki)), (cf, .inl (cI, 12, .inl fi)), (cs, .inl (cI, 12, .inl se)), (ct, .inl (cI, 12, .inl th))] s.heap.size = A at hD hG
  have hA : ∀ q : Nat, s.heap.size ≤ q → A q := fun q h => by rw [← hAe]; exact Or.inr h
  have hS : va_S A s.heap s.heap [] := va_S.rf
  have hP : va_P (dC, dI) vwCl [(ca, .inr (0, [.ref ck, .ref cf, .ref cs, .ref ct, .int size])), (ck, .inl (cI, 12, .inl ki)), (cf, .inl (cI, 12, .inl fi)), (cs, .inl (cI, 12, .inl se)), (ct, .inl (cI, 12, .inl th))] s.heap := hP
  have hl := lv_entry ([.ref ca, .int p1, .int p2]) (n := 5) (Nat.le_of_ble_eq_true rfl)
  rw [lg_entry_eq]
  generalize (lg_sl ([.ref ca, .int p1, .int p2]) ++ List.replicate (5 - (lg_sl ([.ref ca, .int p1, .int p2])).length) Slot.unset).toArray = ls at hl ⊢
  have hl : lv_has ls 5 [(0, .ref ca), (1, .int p1), (2, .int p2)] := hl
  refine lv_iconst (v := 0) hx hb dX0_listenersFrom_0 (by decide) ?_
  refine lv_istore_n (lv' := [(3, .int (0 : Int32)), (0, .ref ca), (1, .int p1), (2, .int p2)]) hx hb dX0_listenersFrom_1 rfl hl (by decide) rfl (fun ls hl => ?_)
  refine lv_iload_n hx hb dX0_listenersFrom_2 rfl (lv_at hl 2 rfl) ?_
  refine lv_iconst (v := 0) hx hb dX0_listenersFrom_3 (by decide) ?_
  refine va_mmax hx hb (hml.trans hl.1.symm) hown (hts _ kX0_listenersFrom_0) (hts _ kX0_listenersFrom_1) (hts _ kX0_listenersFrom_2) (hts _ kX0_listenersFrom_3) (Nat.le_of_ble_eq_true rfl) (Nat.le_of_ble_eq_true rfl) (Nat.le_of_ble_eq_true rfl) (Nat.le_of_ble_eq_true rfl) dX0_listenersFrom_4 ?_
  refine lv_istore (lv' := [(4, .int (if p1 < (0 : Int32) then (0 : Int32) else p1)), (3, .int (0 : Int32)), (0, .ref ca), (1, .int p1), (2, .int p2)]) hx hb dX0_listenersFrom_7 hl (by decide) rfl (fun ls hl => ?_)
  refine zNm (fun R9 Q9 hR9 hQ9 => ?_)
  have L9 : ∀ (n9 : Nat) (acc : Int32) (i : Int32), 0 ≤ i.toInt → (size).toInt - i.toInt < n9 ∧ 0 < n9 → lX0_listenersFrom_9_r ki fi se th size p1 p2 n9 acc i = rX0_listenersFrom ki fi se th size p1 p2 → ∀ (ls : Array Slot), lv_has ls 5 [(4, .int i), (3, .int acc), (0, .ref ca), (1, .int p1), (2, .int p2)] → W p l e R9 s m ([.ref ca, .int p1, .int p2] : List Value).toArray below meth c s.heap [] 0 0 Q9 (F0 m 9 ls []) := by
    subst hR9; subst hQ9
    intro n9
    induction n9 with
    | zero => intro acc i hi0 hi2; exact absurd hi2.2 (by decide)
    | succ n9 ih9 =>
      intro acc i hi0 hi2 hres9_r ls hl
      refine lv_iload hx hb dX0_listenersFrom_9 (lv_at hl 0 rfl) ?_
      refine lv_aload_n hx hb dX0_listenersFrom_11 rfl (lv_at hl 2 rfl) ?_
      refine va_get (D := (dC, dI)) (ci := 0) (v := .int size) (C := RX0) (T := TX0) (N := 5) hx hb hts iX0_listenersFrom_X0 hown hK hP 0 rfl rfl 4 (by decide) (hts _ kX0_listenersFrom_5) (fun _ h9 => h9) rfl dX0_listenersFrom_12 ?_
      refine lv_icmp_ge (tgt := 57) hx hb dX0_listenersFrom_15 (by decide) (fun c_1 => ?_) (fun c_1 => ?_)
      · refine lv_iload_n hx hb dX0_listenersFrom_57 rfl (lv_at hl 1 rfl) ?_
        exact W.iret (v := acc) hx hb hr (fun t ht hW => ⟨_, rfl, (by rw [← hres9_r]; rw [lX0_listenersFrom_9_r]; rw [if_pos c_1]), ht⟩) (fun q hq => absurd hq List.not_mem_nil) dX0_listenersFrom_58
      · refine lv_aload_n hx hb dX0_listenersFrom_18 rfl (lv_at hl 2 rfl) ?_
        refine va_get (D := (dC, dI)) (ci := 0) (v := .ref ck) (C := RX0) (T := TX0) (N := 5) hx hb hts iX0_listenersFrom_X0 hown hK hP 0 rfl rfl 0 (by decide) (hts _ kX0_listenersFrom_6) (fun _ h9 => h9) rfl dX0_listenersFrom_19 ?_
        refine lv_iload hx hb dX0_listenersFrom_22 (lv_at hl 0 rfl) ?_
        refine va_iald hx hb hK hP 1 0 rfl rfl (i := i) (by first | assumption | exact zin_a (by assumption) (by assumption) (by assumption) | exact zin_c (by assumption) (by assumption) (by assumption) | exact zin_c (by assumption) (by assumption) (by decide) | exact zin_e (by assumption) (by assumption) (by decide) | exact zin_e (by assumption) (by assumption) (by assumption) | exact zin_f (by assumption) (by assumption) (by assumption)) dX0_listenersFrom_24 ?_
        refine zNm (fun R9 Q9 hR9 hQ9 => ?_)
        have J51 : ∀ (v51_0 : Int32), v51_0 = (jX0_listenersFrom_51_0 ki fi se th size p1 p2 acc i) → ∀ (ls : Array Slot), lv_has ls 5 [(4, .int i), (3, .int v51_0), (0, .ref ca), (1, .int p1), (2, .int p2)] → W p l e R9 s m ([.ref ca, .int p1, .int p2] : List Value).toArray below meth c s.heap [] 0 0 Q9 (F0 m 51 ls []) := by
          subst hR9; subst hQ9
          intro v51_0 hvv51_0
          rw [hvv51_0]; clear hvv51_0 v51_0
          intro ls hl
          refine lv_iinc (v := (i + 1)) (lv' := [(4, .int (i + 1)), (3, .int (jX0_listenersFrom_51_0 ki fi se th size p1 p2 acc i)), (0, .ref ca), (1, .int p1), (2, .int p2)]) hx hb dX0_listenersFrom_51 hl (k := 0) rfl rfl (by decide) rfl (fun ls hl => ?_)
          refine lv_goto (tgt := 9) hx hb dX0_listenersFrom_54 (by decide) ?_
          exact ih9 (jX0_listenersFrom_51_0 ki fi se th size p1 p2 acc i) (i + 1) (by have h9 := zInc (x := i) (y := size) (by assumption); omega) (by have h9 := zInc (x := i) (y := size) (by assumption); have h8 := zGo (x := i) (y := size) (by assumption); omega) (by rw [← hres9_r]; rw [lX0_listenersFrom_9_r]; rw [if_neg c_1]) _ (lv_sub hl [0, 1, 2, 3, 4] rfl)
        subst hR9; subst hQ9
        refine lv_if_ne (tgt := 51) hx hb dX0_listenersFrom_25 (by decide) (fun c_2 => ?_) (fun c_2 => ?_)
        · exact J51 acc (by unfold jX0_listenersFrom_51_0; rw [if_neg c_2]) _ (lv_sub hl [0, 1, 2, 3, 4] rfl)
        · refine lv_aload_n hx hb dX0_listenersFrom_28 rfl (lv_at hl 2 rfl) ?_
          refine va_get (D := (dC, dI)) (ci := 0) (v := .ref ct) (C := RX0) (T := TX0) (N := 5) hx hb hts iX0_listenersFrom_X0 hown hK hP 0 rfl rfl 3 (by decide) (hts _ kX0_listenersFrom_7) (fun _ h9 => h9) rfl dX0_listenersFrom_29 ?_
          refine lv_iload hx hb dX0_listenersFrom_32 (lv_at hl 0 rfl) ?_
          refine va_iald hx hb hK hP 4 0 rfl rfl (i := i) (by first | assumption | exact zin_a (by assumption) (by assumption) (by assumption) | exact zin_c (by assumption) (by assumption) (by assumption) | exact zin_c (by assumption) (by assumption) (by decide) | exact zin_e (by assumption) (by assumption) (by decide) | exact zin_e (by assumption) (by assumption) (by assumption) | exact zin_f (by assumption) (by assumption) (by assumption)) dX0_listenersFrom_34 ?_
          refine lv_iload_n hx hb dX0_listenersFrom_35 rfl (lv_at hl 4 rfl) ?_
          refine lv_icmp_ne (tgt := 51) hx hb dX0_listenersFrom_36 (by decide) (fun c_3 => ?_) (fun c_3 => ?_)
          · exact J51 acc (by unfold jX0_listenersFrom_51_0; rw [if_pos c_2, if_neg c_3]) _ (lv_sub hl [0, 1, 2, 3, 4] rfl)
          · refine lv_iload_n hx hb dX0_listenersFrom_39 rfl (lv_at hl 1 rfl) ?_
            refine lv_iconst (v := 1) hx hb dX0_listenersFrom_40 (by decide) ?_
            refine lv_aload_n hx hb dX0_listenersFrom_41 rfl (lv_at hl 2 rfl) ?_
            refine va_get (D := (dC, dI)) (ci := 0) (v := .ref cs) (C := RX0) (T := TX0) (N := 5) hx hb hts iX0_listenersFrom_X0 hown hK hP 0 rfl rfl 2 (by decide) (hts _ kX0_listenersFrom_8) (fun _ h9 => h9) rfl dX0_listenersFrom_42 ?_
            refine lv_iload hx hb dX0_listenersFrom_45 (lv_at hl 0 rfl) ?_
            refine va_iald hx hb hK hP 3 0 rfl rfl (i := i) (by first | assumption | exact zin_a (by assumption) (by assumption) (by assumption) | exact zin_c (by assumption) (by assumption) (by assumption) | exact zin_c (by assumption) (by assumption) (by decide) | exact zin_e (by assumption) (by assumption) (by decide) | exact zin_e (by assumption) (by assumption) (by assumption) | exact zin_f (by assumption) (by assumption) (by assumption)) dX0_listenersFrom_47 ?_
            refine lv_ishl hx hb dX0_listenersFrom_48 ?_
            refine lv_ior hx hb dX0_listenersFrom_49 ?_
            refine lv_istore_n (lv' := [(3, .int (acc ||| ((1 : Int32) <<< ((se (i).toNatClampNeg) &&& 31)))), (4, .int i), (0, .ref ca), (1, .int p1), (2, .int p2)]) hx hb dX0_listenersFrom_50 rfl hl (by decide) rfl (fun ls hl => ?_)
            exact J51 (acc ||| ((1 : Int32) <<< ((se (i).toNatClampNeg) &&& 31))) (by unfold jX0_listenersFrom_51_0; rw [if_pos c_2, if_pos c_3]) _ (lv_sub hl [1, 0, 2, 3, 4] rfl)
  subst hR9; subst hQ9
  exact L9 14 (0 : Int32) (if p1 < (0 : Int32) then (0 : Int32) else p1) (zMax0 p1) (by have h9 := zMax0 p1; omega) (by unfold rX0_listenersFrom; rfl) _ (lv_sub hl [0, 1, 2, 3, 4] rfl)

/-! J7_fill_53178 -/
def lJ7_fill_53178_5_f (f : Nat → Int32) (N : Nat) (v : Int32) : Nat → (Nat → Int32) → (Int32) → (Nat → Int32)
  | 0, _, _ => fun _ => 0
  | n5 + 1, f1, i => (if (Int32.ofNat N) ≤ i then f1 else (lJ7_fill_53178_5_f f N v n5 (upd f1 (i).toNatClampNeg v) (i + 1)))
def oJ7_fill_53178_f (f : Nat → Int32) (N : Nat) (v : Int32) : Nat → Int32 := (lJ7_fill_53178_5_f f N v (N + 1) f (0 : Int32))
set_option maxHeartbeats 520000 in
set_option maxRecDepth 100000 in
theorem c_J7_fill_53178 (l : Launch) (dC : Nat → ClassId) (dI : Nat → Nat → Nat) (cI cJ : ClassId) (ar : Nat) (sz : Nat) (f : Nat → Int32) (N : Nat) (v : Int32) (hN : (Int32.ofNat N).toInt = (N : Int)) : Met l yJ7_fill_53178 wsJ7_fill_53178 ({ frames := 0, cells := 0, slots := 0, locals := 0 }) (va_Pc [.ref ar, .int v] (zI (dC, dI) [(cI, .int), (cJ, .long)] [(ar, .inl (cI, N, .inl f))] sz)) (va_Qv (fun (u : (Nat → Int32)) => u = oJ7_fill_53178_f f N v) (fun u => zO (dC, dI) [(cI, .int), (cJ, .long)] [(ar, .inl (cI, N, .inl u))] (va_A [(ar, .inl (cI, N, .inl f))] sz)) (va_A [(ar, .inl (cI, N, .inl f))] sz)) 0 0 (va_A [(ar, .inl (cI, N, .inl f))] sz) := by
  refine Met.ofW (cc := cJ7_fill_53178) (maxL := 4) (ret := none) (by decide) rfl ?_
  intro p e s m args below meth c s₁ B hml hv
  obtain ⟨rfl, hsz, hP, hK, hD0, hG⟩ := hv
  have hx := B.exec
  have hb := B.bytes
  have hr := B.returns
  have hts := atoms_spec (ws := wsJ7_fill_53178) B.pre
  have hown : s.vm.findClass RJ7 = some m.cls := findClass_of_methodNamed B.named
  have hlocks := B.notSynchronized
  subst hsz
  have hD := hD0.self (sz := s.heap.size)
  generalize hAe : va_A [(ar, .inl (cI, N, .inl f))] s.heap.size = A at hD hG ⊢
  have hA : ∀ q : Nat, s.heap.size ≤ q → A q := fun q h => by rw [← hAe]; exact Or.inr h
  have hS : va_S A s.heap s.heap [] := va_S.rf
  have hP : va_P (dC, dI) vwCl [(ar, .inl (cI, N, .inl f))] s.heap := hP
  have hl := lv_entry ([.ref ar, .int v]) (n := 4) (Nat.le_of_ble_eq_true rfl)
  rw [lg_entry_eq]
  generalize (lg_sl ([.ref ar, .int v]) ++ List.replicate (4 - (lg_sl ([.ref ar, .int v])).length) Slot.unset).toArray = ls at hl ⊢
  have hl : lv_has ls 4 [(0, .ref ar), (1, .int v)] := hl
  refine lv_iconst (v := 0) hx hb dJ7_fill_53178_0 (by decide) ?_
  refine lv_istore_n (lv' := [(2, .int (0 : Int32)), (0, .ref ar), (1, .int v)]) hx hb dJ7_fill_53178_1 rfl hl (by decide) rfl (fun ls hl => ?_)
  refine lv_aload_n hx hb dJ7_fill_53178_2 rfl (lv_at hl 1 rfl) ?_
  refine va_alen (v := (Int32.ofNat N)) hx hb hK hP 0 0 rfl rfl rfl dJ7_fill_53178_3 ?_
  refine lv_istore_n (lv' := [(3, .int (Int32.ofNat N)), (2, .int (0 : Int32)), (0, .ref ar), (1, .int v)]) hx hb dJ7_fill_53178_4 rfl hl (by decide) rfl (fun ls hl => ?_)
  refine zNm (fun R9 Q9 hR9 hQ9 => ?_)
  have L5 : ∀ (n5 : Nat) (f1 : Nat → Int32) (i : Int32), 0 ≤ i.toInt → (Int32.ofNat N).toInt - i.toInt < n5 ∧ 0 < n5 → lJ7_fill_53178_5_f f N v n5 f1 i = oJ7_fill_53178_f f N v → ∀ (H : Heap) (locs : List Loc) (ls : Array Slot), va_P (dC, dI) vwCl [(ar, .inl (cI, N, .inl f1))] H → va_D A [(ar, .inl (cI, N, .inl f1))] → va_S A s.heap H locs → lv_has ls 4 [(3, .int (Int32.ofNat N)), (2, .int i), (0, .ref ar), (1, .int v)] → W p l e R9 s m ([.ref ar, .int v] : List Value).toArray below meth c H locs 0 0 Q9 (F0 m 5 ls []) := by
    subst hR9; subst hQ9
    intro n5
    induction n5 with
    | zero => intro f1 i hi0 hi2; exact absurd hi2.2 (by decide)
    | succ n5 ih5 =>
      intro f1 i hi0 hi2 hres5_f H locs ls hP hD hS hl
      refine lv_iload_n hx hb dJ7_fill_53178_5 rfl (lv_at hl 1 rfl) ?_
      refine lv_iload_n hx hb dJ7_fill_53178_6 rfl (lv_at hl 0 rfl) ?_
      refine lv_icmp_ge (tgt := 20) hx hb dJ7_fill_53178_7 (by decide) (fun c_1 => ?_) (fun c_1 => ?_)
      · exact W.vret hx hb hr (fun t ht hW => ⟨⟨(f1), rfl, (by rw [← hres5_f]; rw [lJ7_fill_53178_5_f]; rw [if_pos c_1]), (by rw [ht]; exact hP.sub [0] rfl), va_K.moved hW.alike hK, hD.sub [0] (by decide) rfl⟩, hS.F ht⟩) hS.2.2 dJ7_fill_53178_20
      · refine lv_aload_n hx hb dJ7_fill_53178_10 rfl (lv_at hl 2 rfl) ?_
        refine lv_iload_n hx hb dJ7_fill_53178_11 rfl (lv_at hl 1 rfl) ?_
        refine lv_iload_n hx hb dJ7_fill_53178_12 rfl (lv_at hl 3 rfl) ?_
        refine va_iast hx hb hK hP hD hS 0 0 rfl rfl (i := i) (x := v) (zin_c (by assumption) (by assumption) (Int.le_of_eq hN)) dJ7_fill_53178_13 (fun H locs hP hD hS => ?_)
        have hP : va_P (dC, dI) vwCl [(ar, .inl (cI, N, .inl (upd f1 (i).toNatClampNeg v)))] H := hP
        have hD : va_D A [(ar, .inl (cI, N, .inl (upd f1 (i).toNatClampNeg v)))] := hD
        refine lv_iinc (v := (i + 1)) (lv' := [(2, .int (i + 1)), (3, .int (Int32.ofNat N)), (0, .ref ar), (1, .int v)]) hx hb dJ7_fill_53178_14 hl (k := 1) rfl rfl (by decide) rfl (fun ls hl => ?_)
        refine lv_goto (tgt := 5) hx hb dJ7_fill_53178_17 (by decide) ?_
        exact ih5 (upd f1 (i).toNatClampNeg v) (i + 1) (by have h9 := zInc (x := i) (y := Int32.ofNat N) (by assumption); omega) (by have h9 := zInc (x := i) (y := Int32.ofNat N) (by assumption); have h8 := zGo (x := i) (y := Int32.ofNat N) (by assumption); omega) (by rw [← hres5_f]; rw [lJ7_fill_53178_5_f]; rw [if_neg c_1]) _ _ _ hP hD hS (lv_sub hl [1, 0, 2, 3] rfl)
  subst hR9; subst hQ9
  exact L5 (N + 1) f (0 : Int32) (by decide) (by rw [hN]; refine ⟨?_, Nat.succ_pos _⟩; have h9 : (0 : Int32).toInt = 0 := rfl; omega) (by unfold oJ7_fill_53178_f; rfl) _ _ _ hP hD hS (lv_sub hl [0, 1, 2, 3] rfl)

/-! J7_fill_d0a16 -/
def lJ7_fill_d0a16_6_f (f : Nat → Int64) (N : Nat) (v : Int64) : Nat → (Nat → Int64) → (Int32) → (Nat → Int64)
  | 0, _, _ => fun _ => 0
  | n6 + 1, f1, i => (if (Int32.ofNat N) ≤ i then f1 else (lJ7_fill_d0a16_6_f f N v n6 (vp_updL f1 (i).toNatClampNeg v) (i + 1)))
def oJ7_fill_d0a16_f (f : Nat → Int64) (N : Nat) (v : Int64) : Nat → Int64 := (lJ7_fill_d0a16_6_f f N v (N + 1) f (0 : Int32))
set_option maxHeartbeats 520000 in
set_option maxRecDepth 100000 in
theorem c_J7_fill_d0a16 (l : Launch) (dC : Nat → ClassId) (dI : Nat → Nat → Nat) (cI cJ : ClassId) (ar : Nat) (sz : Nat) (f : Nat → Int64) (N : Nat) (v : Int64) (hN : (Int32.ofNat N).toInt = (N : Int)) : Met l yJ7_fill_d0a16 wsJ7_fill_d0a16 ({ frames := 0, cells := 0, slots := 0, locals := 0 }) (va_Pc [.ref ar, .long v] (zI (dC, dI) [(cI, .int), (cJ, .long)] [(ar, .inl (cJ, N, .inr (.inl f)))] sz)) (va_Qv (fun (u : (Nat → Int64)) => u = oJ7_fill_d0a16_f f N v) (fun u => zO (dC, dI) [(cI, .int), (cJ, .long)] [(ar, .inl (cJ, N, .inr (.inl u)))] (va_A [(ar, .inl (cJ, N, .inr (.inl f)))] sz)) (va_A [(ar, .inl (cJ, N, .inr (.inl f)))] sz)) 0 0 (va_A [(ar, .inl (cJ, N, .inr (.inl f)))] sz) := by
  refine Met.ofW (cc := cJ7_fill_d0a16) (maxL := 5) (ret := none) (by decide) rfl ?_
  intro p e s m args below meth c s₁ B hml hv
  obtain ⟨rfl, hsz, hP, hK, hD0, hG⟩ := hv
  have hx := B.exec
  have hb := B.bytes
  have hr := B.returns
  have hts := atoms_spec (ws := wsJ7_fill_d0a16) B.pre
  have hown : s.vm.findClass RJ7 = some m.cls := findClass_of_methodNamed B.named
  have hlocks := B.notSynchronized
  subst hsz
  have hD := hD0.self (sz := s.heap.size)
  generalize hAe : va_A [(ar, .inl (cJ, N, .inr (.inl f)))] s.heap.size = A at hD hG ⊢
  have hA : ∀ q : Nat, s.heap.size ≤ q → A q := fun q h => by rw [← hAe]; exact Or.inr h
  have hS : va_S A s.heap s.heap [] := va_S.rf
  have hP : va_P (dC, dI) vwCl [(ar, .inl (cJ, N, .inr (.inl f)))] s.heap := hP
  have hl := lv_entry ([.ref ar, .long v]) (n := 5) (Nat.le_of_ble_eq_true rfl)
  rw [lg_entry_eq]
  generalize (lg_sl ([.ref ar, .long v]) ++ List.replicate (5 - (lg_sl ([.ref ar, .long v])).length) Slot.unset).toArray = ls at hl ⊢
  have hl : lv_has ls 5 [(0, .ref ar), (1, .long v)] := hl
  refine lv_iconst (v := 0) hx hb dJ7_fill_d0a16_0 (by decide) ?_
  refine lv_istore_n (lv' := [(3, .int (0 : Int32)), (0, .ref ar), (1, .long v)]) hx hb dJ7_fill_d0a16_1 rfl hl (by decide) rfl (fun ls hl => ?_)
  refine lv_aload_n hx hb dJ7_fill_d0a16_2 rfl (lv_at hl 1 rfl) ?_
  refine va_alen (v := (Int32.ofNat N)) hx hb hK hP 0 1 rfl rfl rfl dJ7_fill_d0a16_3 ?_
  refine lv_istore (lv' := [(4, .int (Int32.ofNat N)), (3, .int (0 : Int32)), (0, .ref ar), (1, .long v)]) hx hb dJ7_fill_d0a16_4 hl (by decide) rfl (fun ls hl => ?_)
  refine zNm (fun R9 Q9 hR9 hQ9 => ?_)
  have L6 : ∀ (n6 : Nat) (f1 : Nat → Int64) (i : Int32), 0 ≤ i.toInt → (Int32.ofNat N).toInt - i.toInt < n6 ∧ 0 < n6 → lJ7_fill_d0a16_6_f f N v n6 f1 i = oJ7_fill_d0a16_f f N v → ∀ (H : Heap) (locs : List Loc) (ls : Array Slot), va_P (dC, dI) vwCl [(ar, .inl (cJ, N, .inr (.inl f1)))] H → va_D A [(ar, .inl (cJ, N, .inr (.inl f1)))] → va_S A s.heap H locs → lv_has ls 5 [(4, .int (Int32.ofNat N)), (3, .int i), (0, .ref ar), (1, .long v)] → W p l e R9 s m ([.ref ar, .long v] : List Value).toArray below meth c H locs 0 0 Q9 (F0 m 6 ls []) := by
    subst hR9; subst hQ9
    intro n6
    induction n6 with
    | zero => intro f1 i hi0 hi2; exact absurd hi2.2 (by decide)
    | succ n6 ih6 =>
      intro f1 i hi0 hi2 hres6_f H locs ls hP hD hS hl
      refine lv_iload_n hx hb dJ7_fill_d0a16_6 rfl (lv_at hl 1 rfl) ?_
      refine lv_iload hx hb dJ7_fill_d0a16_7 (lv_at hl 0 rfl) ?_
      refine lv_icmp_ge (tgt := 22) hx hb dJ7_fill_d0a16_9 (by decide) (fun c_1 => ?_) (fun c_1 => ?_)
      · exact W.vret hx hb hr (fun t ht hW => ⟨⟨(f1), rfl, (by rw [← hres6_f]; rw [lJ7_fill_d0a16_6_f]; rw [if_pos c_1]), (by rw [ht]; exact hP.sub [0] rfl), va_K.moved hW.alike hK, hD.sub [0] (by decide) rfl⟩, hS.F ht⟩) hS.2.2 dJ7_fill_d0a16_22
      · refine lv_aload_n hx hb dJ7_fill_d0a16_12 rfl (lv_at hl 2 rfl) ?_
        refine lv_iload_n hx hb dJ7_fill_d0a16_13 rfl (lv_at hl 1 rfl) ?_
        refine lv_lload_n hx hb dJ7_fill_d0a16_14 rfl (lv_at hl 3 rfl) ?_
        refine va_last hx hb hK hP hD hS 0 1 rfl rfl (i := i) (x := v) (zin_c (by assumption) (by assumption) (Int.le_of_eq hN)) dJ7_fill_d0a16_15 (fun H locs hP hD hS => ?_)
        have hP : va_P (dC, dI) vwCl [(ar, .inl (cJ, N, .inr (.inl (vp_updL f1 (i).toNatClampNeg v))))] H := hP
        have hD : va_D A [(ar, .inl (cJ, N, .inr (.inl (vp_updL f1 (i).toNatClampNeg v))))] := hD
        refine lv_iinc (v := (i + 1)) (lv' := [(3, .int (i + 1)), (4, .int (Int32.ofNat N)), (0, .ref ar), (1, .long v)]) hx hb dJ7_fill_d0a16_16 hl (k := 1) rfl rfl (by decide) rfl (fun ls hl => ?_)
        refine lv_goto (tgt := 6) hx hb dJ7_fill_d0a16_19 (by decide) ?_
        exact ih6 (vp_updL f1 (i).toNatClampNeg v) (i + 1) (by have h9 := zInc (x := i) (y := Int32.ofNat N) (by assumption); omega) (by have h9 := zInc (x := i) (y := Int32.ofNat N) (by assumption); have h8 := zGo (x := i) (y := Int32.ofNat N) (by assumption); omega) (by rw [← hres6_f]; rw [lJ7_fill_d0a16_6_f]; rw [if_neg c_1]) _ _ _ hP hD hS (lv_sub hl [1, 0, 2, 3] rfl)
  subst hR9; subst hQ9
  exact L6 (N + 1) f (0 : Int32) (by decide) (by rw [hN]; refine ⟨?_, Nat.succ_pos _⟩; have h9 : (0 : Int32).toInt = 0 := rfl; omega) (by unfold oJ7_fill_d0a16_f; rfl) _ _ _ hP hD hS (lv_sub hl [0, 1, 2, 3] rfl)

/-! X1_add -/
def rX1_add (le : Nat → Int32) (wi : Nat → Int32) (pr : Nat → Int32) (tp : Nat → Int32) (gs : Int32) (p1 : Int32) (p2 : Int32) (p3 : Int32) : Int32 := (if gs < (6 : Int32) then gs else (-1 : Int32))
def oX1_add_le (le : Nat → Int32) (wi : Nat → Int32) (pr : Nat → Int32) (tp : Nat → Int32) (gs : Int32) (p1 : Int32) (p2 : Int32) (p3 : Int32) : Nat → Int32 := (if gs < (6 : Int32) then (upd le (gs).toNatClampNeg p1) else le)
def oX1_add_wi (le : Nat → Int32) (wi : Nat → Int32) (pr : Nat → Int32) (tp : Nat → Int32) (gs : Int32) (p1 : Int32) (p2 : Int32) (p3 : Int32) : Nat → Int32 := (if gs < (6 : Int32) then (upd wi (gs).toNatClampNeg p2) else wi)
def oX1_add_pr (le : Nat → Int32) (wi : Nat → Int32) (pr : Nat → Int32) (tp : Nat → Int32) (gs : Int32) (p1 : Int32) (p2 : Int32) (p3 : Int32) : Nat → Int32 := (if gs < (6 : Int32) then (upd pr (gs).toNatClampNeg p3) else pr)
def oX1_add_gs (le : Nat → Int32) (wi : Nat → Int32) (pr : Nat → Int32) (tp : Nat → Int32) (gs : Int32) (p1 : Int32) (p2 : Int32) (p3 : Int32) : Int32 := (if gs < (6 : Int32) then (gs + (1 : Int32)) else gs)
set_option maxRecDepth 20000 in
theorem iX1_add_X1 : ∀ w ∈ u_ws RX1 TX1 5, w ∈ wsX1_add := by decide +kernel
set_option maxRecDepth 20000 in
theorem kX1_add_1 : Cond.fieldLink RX1 24 "MaskHall$Gags" "size" "I" ∈ wsX1_add := by decide +kernel
set_option maxRecDepth 20000 in
theorem kX1_add_2 : Cond.fieldLink RX1 9 "MaskHall$Gags" "lengths" "[I" ∈ wsX1_add := by decide +kernel
set_option maxRecDepth 20000 in
theorem kX1_add_3 : Cond.fieldLink RX1 15 "MaskHall$Gags" "wits" "[I" ∈ wsX1_add := by decide +kernel
set_option maxRecDepth 20000 in
theorem kX1_add_4 : Cond.fieldLink RX1 18 "MaskHall$Gags" "props" "[I" ∈ wsX1_add := by decide +kernel
set_option maxHeartbeats 800000 in
set_option maxRecDepth 100000 in
theorem c_X1_add (l : Launch) (dC : Nat → ClassId) (dI : Nat → Nat → Nat) (cI cJ : ClassId) (ga gl gw gp gt : Nat) (sz : Nat) (le : Nat → Int32) (wi : Nat → Int32) (pr : Nat → Int32) (tp : Nat → Int32) (gs : Int32) (p1 : Int32) (p2 : Int32) (p3 : Int32) (hgs0 : 0 ≤ gs.toInt) (hgs : gs.toInt ≤ 6) : Met l yX1_add wsX1_add ({ frames := 0, cells := 0, slots := 0, locals := 0 }) (va_Pc [.ref ga, .int p1, .int p2, .int p3] (zI (dC, dI) [(cI, .int), (cJ, .long)] [(ga, .inr (1, [.ref gl, .ref gw, .ref gp, .ref gt, .int gs])), (gl, .inl (cI, 6, .inl le)), (gw, .inl (cI, 6, .inl wi)), (gp, .inl (cI, 6, .inl pr)), (gt, .inl (cI, 6, .inl tp))] sz)) (va_Qi (fun (r : Int32) (u : (Nat → Int32) × (Nat → Int32) × (Nat → Int32) × (Int32)) => r = rX1_add le wi pr tp gs p1 p2 p3 ∧ u.1 = oX1_add_le le wi pr tp gs p1 p2 p3 ∧ u.2.1 = oX1_add_wi le wi pr tp gs p1 p2 p3 ∧ u.2.2.1 = oX1_add_pr le wi pr tp gs p1 p2 p3 ∧ u.2.2.2 = oX1_add_gs le wi pr tp gs p1 p2 p3) (fun u => zO (dC, dI) [(cI, .int), (cJ, .long)] [(ga, .inr (1, [.ref gl, .ref gw, .ref gp, .ref gt, .int u.2.2.2])), (gl, .inl (cI, 6, .inl u.1)), (gw, .inl (cI, 6, .inl u.2.1)), (gp, .inl (cI, 6, .inl u.2.2.1)), (gt, .inl (cI, 6, .inl tp))] (va_A [(ga, .inr (1, [.ref gl, .ref gw, .ref gp, .ref gt, .int gs])), (gl, .inl (cI, 6, .inl le)), (gw, .inl (cI, 6, .inl wi)), (gp, .inl (cI, 6, .inl pr)), (gt, .inl (cI, 6, .inl tp))] sz)) (va_A [(ga, .inr (1, [.ref gl, .ref gw, .ref gp, .ref gt, .int gs])), (gl, .inl (cI, 6, .inl le)), (gw, .inl (cI, 6, .inl wi)), (gp, .inl (cI, 6, .inl pr)), (gt, .inl (cI, 6, .inl tp))] sz)) 0 0 (va_A [(ga, .inr (1, [.ref gl, .ref gw, .ref gp, .ref gt, .int gs])), (gl, .inl (cI, 6, .inl le)), (gw, .inl (cI, 6, .inl wi)), (gp, .inl (cI, 6, .inl pr)), (gt, .inl (cI, 6, .inl tp))] sz) := by
  refine Met.ofW (cc := cX1_add) (maxL := 4) (ret := (some .int)) (by decide) rfl ?_
  intro p e s m args below meth c s₁ B hml hv
  obtain ⟨rfl, hsz, hP, hK, hD0, hG⟩ := hv
  have hx := B.exec
  have hb := B.bytes
  have hr := B.returns
  have hts := atoms_spec (ws := wsX1_add) B.pre
  have hown : s.vm.findClass RX1 = some m.cls := findClass_of_methodNamed B.named
  have hlocks := B.notSynchronized
  subst hsz
  have hD := hD0.self (sz := s.heap.size)
  generalize hAe : va_A [(ga, .inr (1, [.ref gl, .ref gw, .ref gp, .ref gt, .int gs])), (gl, .inl (cI, 6, .inl le)), (gw, .inl (cI, 6, .inl wi)), (gp, .inl (cI, 6, .inl pr)), (gt, .inl (cI, 6, .inl tp))] s.heap.size = A at hD hG ⊢
  have hA : ∀ q : Nat, s.heap.size ≤ q → A q := fun q h => by rw [← hAe]; exact Or.inr h
  have hS : va_S A s.heap s.heap [] := va_S.rf
  have hP : va_P (dC, dI) vwCl [(ga, .inr (1, [.ref gl, .ref gw, .ref gp, .ref gt, .int gs])), (gl, .inl (cI, 6, .inl le)), (gw, .inl (cI, 6, .inl wi)), (gp, .inl (cI, 6, .inl pr)), (gt, .inl (cI, 6, .inl tp))] s.heap := hP
  have hl := lv_entry ([.ref ga, .int p1, .int p2, .int p3]) (n := 4) (Nat.le_of_ble_eq_true rfl)
  rw [lg_entry_eq]
  generalize (lg_sl ([.ref ga, .int p1, .int p2, .int p3]) ++ List.replicate (4 - (lg_sl ([.ref ga, .int p1, .int p2, .int p3])).length) Slot.unset).toArray = ls at hl ⊢
  have hl : lv_has ls 4 [(0, .ref ga), (1, .int p1), (2, .int p2), (3, .int p3)] := hl
  refine lv_aload_n hx hb dX1_add_0 rfl (lv_at hl 0 rfl) ?_
  refine va_get (D := (dC, dI)) (ci := 1) (v := .int gs) (C := RX1) (T := TX1) (N := 5) hx hb hts iX1_add_X1 hown hK hP 0 rfl rfl 4 (by decide) (hts _ kX1_add_1) (fun _ h9 => h9) rfl dX1_add_1 ?_
  refine lv_bipush (v := 6) hx hb dX1_add_4 (by decide) ?_
  refine lv_icmp_lt (tgt := 11) hx hb dX1_add_6 (by decide) (fun c_1 => ?_) (fun c_1 => ?_)
  · refine lv_aload_n hx hb dX1_add_11 rfl (lv_at hl 0 rfl) ?_
    refine va_get (D := (dC, dI)) (ci := 1) (v := .ref gl) (C := RX1) (T := TX1) (N := 5) hx hb hts iX1_add_X1 hown hK hP 0 rfl rfl 0 (by decide) (hts _ kX1_add_2) (fun _ h9 => h9) rfl dX1_add_12 ?_
    refine lv_aload_n hx hb dX1_add_15 rfl (lv_at hl 0 rfl) ?_
    refine va_get (D := (dC, dI)) (ci := 1) (v := .int gs) (C := RX1) (T := TX1) (N := 5) hx hb hts iX1_add_X1 hown hK hP 0 rfl rfl 4 (by decide) (hts _ kX1_add_1) (fun _ h9 => h9) rfl dX1_add_16 ?_
    refine lv_iload_n hx hb dX1_add_19 rfl (lv_at hl 1 rfl) ?_
    refine va_iast hx hb hK hP hD hS 1 0 rfl rfl (i := gs) (x := p1) (by first | assumption | exact zin_a (by assumption) (by assumption) (by assumption) | exact zin_c (by assumption) (by assumption) (by assumption) | exact zin_c (by assumption) (by assumption) (by decide) | exact zin_e (by assumption) (by assumption) (by decide) | exact zin_e (by assumption) (by assumption) (by assumption) | exact zin_f (by assumption) (by assumption) (by assumption)) dX1_add_20 (fun H locs hP hD hS => ?_)
    have hP : va_P (dC, dI) vwCl [(ga, .inr (1, [.ref gl, .ref gw, .ref gp, .ref gt, .int gs])), (gl, .inl (cI, 6, .inl (upd le (gs).toNatClampNeg p1))), (gw, .inl (cI, 6, .inl wi)), (gp, .inl (cI, 6, .inl pr)), (gt, .inl (cI, 6, .inl tp))] H := hP
    have hD : va_D A [(ga, .inr (1, [.ref gl, .ref gw, .ref gp, .ref gt, .int gs])), (gl, .inl (cI, 6, .inl (upd le (gs).toNatClampNeg p1))), (gw, .inl (cI, 6, .inl wi)), (gp, .inl (cI, 6, .inl pr)), (gt, .inl (cI, 6, .inl tp))] := hD
    refine lv_aload_n hx hb dX1_add_21 rfl (lv_at hl 0 rfl) ?_
    refine va_get (D := (dC, dI)) (ci := 1) (v := .ref gw) (C := RX1) (T := TX1) (N := 5) hx hb hts iX1_add_X1 hown hK hP 0 rfl rfl 1 (by decide) (hts _ kX1_add_3) (fun _ h9 => h9) rfl dX1_add_22 ?_
    refine lv_aload_n hx hb dX1_add_25 rfl (lv_at hl 0 rfl) ?_
    refine va_get (D := (dC, dI)) (ci := 1) (v := .int gs) (C := RX1) (T := TX1) (N := 5) hx hb hts iX1_add_X1 hown hK hP 0 rfl rfl 4 (by decide) (hts _ kX1_add_1) (fun _ h9 => h9) rfl dX1_add_26 ?_
    refine lv_iload_n hx hb dX1_add_29 rfl (lv_at hl 2 rfl) ?_
    refine va_iast hx hb hK hP hD hS 2 0 rfl rfl (i := gs) (x := p2) (by first | assumption | exact zin_a (by assumption) (by assumption) (by assumption) | exact zin_c (by assumption) (by assumption) (by assumption) | exact zin_c (by assumption) (by assumption) (by decide) | exact zin_e (by assumption) (by assumption) (by decide) | exact zin_e (by assumption) (by assumption) (by assumption) | exact zin_f (by assumption) (by assumption) (by assumption)) dX1_add_30 (fun H locs hP hD hS => ?_)
    have hP : va_P (dC, dI) vwCl [(ga, .inr (1, [.ref gl, .ref gw, .ref gp, .ref gt, .int gs])), (gl, .inl (cI, 6, .inl (upd le (gs).toNatClampNeg p1))), (gw, .inl (cI, 6, .inl (upd wi (gs).toNatClampNeg p2))), (gp, .inl (cI, 6, .inl pr)), (gt, .inl (cI, 6, .inl tp))] H := hP
    have hD : va_D A [(ga, .inr (1, [.ref gl, .ref gw, .ref gp, .ref gt, .int gs])), (gl, .inl (cI, 6, .inl (upd le (gs).toNatClampNeg p1))), (gw, .inl (cI, 6, .inl (upd wi (gs).toNatClampNeg p2))), (gp, .inl (cI, 6, .inl pr)), (gt, .inl (cI, 6, .inl tp))] := hD
    refine lv_aload_n hx hb dX1_add_31 rfl (lv_at hl 0 rfl) ?_
    refine va_get (D := (dC, dI)) (ci := 1) (v := .ref gp) (C := RX1) (T := TX1) (N := 5) hx hb hts iX1_add_X1 hown hK hP 0 rfl rfl 2 (by decide) (hts _ kX1_add_4) (fun _ h9 => h9) rfl dX1_add_32 ?_
    refine lv_aload_n hx hb dX1_add_35 rfl (lv_at hl 0 rfl) ?_
    refine va_get (D := (dC, dI)) (ci := 1) (v := .int gs) (C := RX1) (T := TX1) (N := 5) hx hb hts iX1_add_X1 hown hK hP 0 rfl rfl 4 (by decide) (hts _ kX1_add_1) (fun _ h9 => h9) rfl dX1_add_36 ?_
    refine lv_iload_n hx hb dX1_add_39 rfl (lv_at hl 3 rfl) ?_
    refine va_iast hx hb hK hP hD hS 3 0 rfl rfl (i := gs) (x := p3) (by first | assumption | exact zin_a (by assumption) (by assumption) (by assumption) | exact zin_c (by assumption) (by assumption) (by assumption) | exact zin_c (by assumption) (by assumption) (by decide) | exact zin_e (by assumption) (by assumption) (by decide) | exact zin_e (by assumption) (by assumption) (by assumption) | exact zin_f (by assumption) (by assumption) (by assumption)) dX1_add_40 (fun H locs hP hD hS => ?_)
    have hP : va_P (dC, dI) vwCl [(ga, .inr (1, [.ref gl, .ref gw, .ref gp, .ref gt, .int gs])), (gl, .inl (cI, 6, .inl (upd le (gs).toNatClampNeg p1))), (gw, .inl (cI, 6, .inl (upd wi (gs).toNatClampNeg p2))), (gp, .inl (cI, 6, .inl (upd pr (gs).toNatClampNeg p3))), (gt, .inl (cI, 6, .inl tp))] H := hP
    have hD : va_D A [(ga, .inr (1, [.ref gl, .ref gw, .ref gp, .ref gt, .int gs])), (gl, .inl (cI, 6, .inl (upd le (gs).toNatClampNeg p1))), (gw, .inl (cI, 6, .inl (upd wi (gs).toNatClampNeg p2))), (gp, .inl (cI, 6, .inl (upd pr (gs).toNatClampNeg p3))), (gt, .inl (cI, 6, .inl tp))] := hD
    refine lv_aload_n hx hb dX1_add_41 rfl (lv_at hl 0 rfl) ?_
    refine lv_dup hx hb dX1_add_42 rfl ?_
    refine va_get (D := (dC, dI)) (ci := 1) (v := .int gs) (C := RX1) (T := TX1) (N := 5) hx hb hts iX1_add_X1 hown hK hP 0 rfl rfl 4 (by decide) (hts _ kX1_add_1) (fun _ h9 => h9) rfl dX1_add_43 ?_
    refine lv_dup_x1 hx hb dX1_add_46 rfl rfl ?_
    refine lv_iconst (v := 1) hx hb dX1_add_47 (by decide) ?_
    refine lv_iadd hx hb dX1_add_48 ?_
    refine va_put (D := (dC, dI)) (ci := 1) (v := .int (gs + (1 : Int32))) (ty := .int) (C := RX1) (T := TX1) (N := 5) hx hb hts iX1_add_X1 tyX1 tyX1_ok nmX1 hown hK hP hD hS 0 rfl rfl 4 (by decide) (hts _ kX1_add_1) (fun _ h9 => h9) rfl (by decide +kernel) rfl rfl (Nat.le_of_ble_eq_true rfl) dX1_add_49 (fun H locs hP hD hS => ?_)
    have hP : va_P (dC, dI) vwCl [(ga, .inr (1, [.ref gl, .ref gw, .ref gp, .ref gt, .int (gs + (1 : Int32))])), (gl, .inl (cI, 6, .inl (upd le (gs).toNatClampNeg p1))), (gw, .inl (cI, 6, .inl (upd wi (gs).toNatClampNeg p2))), (gp, .inl (cI, 6, .inl (upd pr (gs).toNatClampNeg p3))), (gt, .inl (cI, 6, .inl tp))] H := hP
    have hD : va_D A [(ga, .inr (1, [.ref gl, .ref gw, .ref gp, .ref gt, .int (gs + (1 : Int32))])), (gl, .inl (cI, 6, .inl (upd le (gs).toNatClampNeg p1))), (gw, .inl (cI, 6, .inl (upd wi (gs).toNatClampNeg p2))), (gp, .inl (cI, 6, .inl (upd pr (gs).toNatClampNeg p3))), (gt, .inl (cI, 6, .inl tp))] := hD
    exact W.iret (v := gs) hx hb hr (fun t ht hW => ⟨⟨gs, ((upd le (gs).toNatClampNeg p1), (upd wi (gs).toNatClampNeg p2), (upd pr (gs).toNatClampNeg p3), (gs + (1 : Int32))), rfl, ⟨(by unfold rX1_add; rw [if_pos c_1]), (by unfold oX1_add_le; rw [if_pos c_1]), (by unfold oX1_add_wi; rw [if_pos c_1]), (by unfold oX1_add_pr; rw [if_pos c_1]), (by unfold oX1_add_gs; rw [if_pos c_1])⟩, (by rw [ht]; exact hP.sub [0, 1, 2, 3, 4] rfl), va_K.moved hW.alike hK, hD.sub [0, 1, 2, 3, 4] (by decide) rfl⟩, hS.F ht⟩) hS.2.2 dX1_add_52
  · refine lv_iconst (v := -1) hx hb dX1_add_9 (by decide) ?_
    exact W.iret (v := (-1 : Int32)) hx hb hr (fun t ht hW => ⟨⟨(-1 : Int32), (le, wi, pr, gs), rfl, ⟨(by unfold rX1_add; rw [if_neg c_1]), (by unfold oX1_add_le; rw [if_neg c_1]), (by unfold oX1_add_wi; rw [if_neg c_1]), (by unfold oX1_add_pr; rw [if_neg c_1]), (by unfold oX1_add_gs; rw [if_neg c_1])⟩, (by rw [ht]; exact hP.sub [0, 1, 2, 3, 4] rfl), va_K.moved hW.alike hK, hD.sub [0, 1, 2, 3, 4] (by decide) rfl⟩, hS.F ht⟩) hS.2.2 dX1_add_10

/-! X1_beFresh -/
def oX1_beFresh_tp (le : Nat → Int32) (wi : Nat → Int32) (pr : Nat → Int32) (tp : Nat → Int32) (gs : Int32) : Nat → Int32 := (oJ7_fill_53178_f tp 6 (0 : Int32))
set_option maxRecDepth 20000 in
theorem iX1_beFresh_X1 : ∀ w ∈ u_ws RX1 TX1 5, w ∈ wsX1_beFresh := by decide +kernel
set_option maxRecDepth 20000 in
theorem kX1_beFresh_1 : Cond.fieldLink RX1 21 "MaskHall$Gags" "timesPlayed" "[I" ∈ wsX1_beFresh := by decide +kernel
set_option maxHeartbeats 280000 in
set_option maxRecDepth 100000 in
theorem c_X1_beFresh (l : Launch) (dC : Nat → ClassId) (dI : Nat → Nat → Nat) (cI cJ : ClassId) (ga gl gw gp gt : Nat) (sz : Nat) (le : Nat → Int32) (wi : Nat → Int32) (pr : Nat → Int32) (tp : Nat → Int32) (gs : Int32) : Met l yX1_beFresh wsX1_beFresh ({ frames := 1, cells := 0, slots := 0, locals := 23 }) (va_Pc [.ref ga] (zI (dC, dI) [(cI, .int), (cJ, .long)] [(ga, .inr (1, [.ref gl, .ref gw, .ref gp, .ref gt, .int gs])), (gl, .inl (cI, 6, .inl le)), (gw, .inl (cI, 6, .inl wi)), (gp, .inl (cI, 6, .inl pr)), (gt, .inl (cI, 6, .inl tp))] sz)) (va_Qv (fun (u : (Nat → Int32)) => u = oX1_beFresh_tp le wi pr tp gs) (fun u => zO (dC, dI) [(cI, .int), (cJ, .long)] [(ga, .inr (1, [.ref gl, .ref gw, .ref gp, .ref gt, .int gs])), (gl, .inl (cI, 6, .inl le)), (gw, .inl (cI, 6, .inl wi)), (gp, .inl (cI, 6, .inl pr)), (gt, .inl (cI, 6, .inl u))] (va_A [(ga, .inr (1, [.ref gl, .ref gw, .ref gp, .ref gt, .int gs])), (gl, .inl (cI, 6, .inl le)), (gw, .inl (cI, 6, .inl wi)), (gp, .inl (cI, 6, .inl pr)), (gt, .inl (cI, 6, .inl tp))] sz)) (va_A [(ga, .inr (1, [.ref gl, .ref gw, .ref gp, .ref gt, .int gs])), (gl, .inl (cI, 6, .inl le)), (gw, .inl (cI, 6, .inl wi)), (gp, .inl (cI, 6, .inl pr)), (gt, .inl (cI, 6, .inl tp))] sz)) 0 0 (va_A [(ga, .inr (1, [.ref gl, .ref gw, .ref gp, .ref gt, .int gs])), (gl, .inl (cI, 6, .inl le)), (gw, .inl (cI, 6, .inl wi)), (gp, .inl (cI, 6, .inl pr)), (gt, .inl (cI, 6, .inl tp))] sz) := by
  refine Met.ofW (cc := cX1_beFresh) (maxL := 1) (ret := none) (by decide) rfl ?_
  intro p e s m args below meth c s₁ B hml hv
  obtain ⟨rfl, hsz, hP, hK, hD0, hG⟩ := hv
  have hx := B.exec
  have hb := B.bytes
  have hr := B.returns
  have hts := atoms_spec (ws := wsX1_beFresh) B.pre
  have hown : s.vm.findClass RX1 = some m.cls := findClass_of_methodNamed B.named
  have hlocks := B.notSynchronized
  subst hsz
  have hD := hD0.self (sz := s.heap.size)
  generalize hAe : va_A [(ga, .inr (1, [.ref gl, .ref gw, .ref gp, .ref gt, .int gs])), (gl, .inl (cI, 6, .inl le)), (gw, .inl (cI, 6, .inl wi)), (gp, .inl (cI, 6, .inl pr)), (gt, .inl (cI, 6, .inl tp))] s.heap.size = A at hD hG ⊢
  have hA : ∀ q : Nat, s.heap.size ≤ q → A q := fun q h => by rw [← hAe]; exact Or.inr h
  have hS : va_S A s.heap s.heap [] := va_S.rf
  have hP : va_P (dC, dI) vwCl [(ga, .inr (1, [.ref gl, .ref gw, .ref gp, .ref gt, .int gs])), (gl, .inl (cI, 6, .inl le)), (gw, .inl (cI, 6, .inl wi)), (gp, .inl (cI, 6, .inl pr)), (gt, .inl (cI, 6, .inl tp))] s.heap := hP
  have hl := lv_entry ([.ref ga]) (n := 1) (Nat.le_of_ble_eq_true rfl)
  rw [lg_entry_eq]
  generalize (lg_sl ([.ref ga]) ++ List.replicate (1 - (lg_sl ([.ref ga])).length) Slot.unset).toArray = ls at hl ⊢
  have hl : lv_has ls 1 [(0, .ref ga)] := hl
  refine lv_aload_n hx hb dX1_beFresh_0 rfl (lv_at hl 0 rfl) ?_
  refine va_get (D := (dC, dI)) (ci := 1) (v := .ref gt) (C := RX1) (T := TX1) (N := 5) hx hb hts iX1_beFresh_X1 hown hK hP 0 rfl rfl 3 (by decide) (hts _ kX1_beFresh_1) (fun _ h9 => h9) rfl dX1_beFresh_1 ?_
  refine lv_iconst (v := 0) hx hb dX1_beFresh_4 (by decide) ?_
  refine zkV (wr := [(ga, .inr (1, [.ref gl, .ref gw, .ref gp, .ref gt, .int gs])), (gl, .inl (cI, 6, .inl le)), (gw, .inl (cI, 6, .inl wi)), (gp, .inl (cI, 6, .inl pr))]) (u0 := ((oJ7_fill_53178_f tp 6 (0 : Int32)))) (va_runS (As := [.ref gt, .int (0 : Int32)]) (rest := []) ⟨hx, hb, hml, hown, hts⟩ (c_J7_fill_53178 l dC dI cI cJ gt s.heap.size tp 6 (0 : Int32) (by decide)) (va_cwS 2 hts gX1_beFresh_J7_fill_53178 rfl rfl rfl (by decide +kernel) ⟨Nat.le_of_ble_eq_true rfl, Nat.le_of_ble_eq_true rfl⟩) (zpS hK hP hD hS hA hG [4] (by decide) rfl) rfl rfl hl.1 rfl (lv_room (Nat.le_of_ble_eq_true rfl)) dX1_beFresh_5 ⟨Nat.le_of_ble_eq_true rfl, Nat.le_of_ble_eq_true rfl⟩) (fun u h => h) hP hD hS hA [4] [0, 1, 2, 3] rfl rfl (by decide) (by decide) (fun H locs hP hD hS => ?_)
  try dsimp only [List.cons_append, List.nil_append] at hP hD
  have hP : va_P (dC, dI) vwCl [(ga, .inr (1, [.ref gl, .ref gw, .ref gp, .ref gt, .int gs])), (gl, .inl (cI, 6, .inl le)), (gw, .inl (cI, 6, .inl wi)), (gp, .inl (cI, 6, .inl pr)), (gt, .inl (cI, 6, .inl (oJ7_fill_53178_f tp 6 (0 : Int32))))] H := hP
  have hD : va_D A [(ga, .inr (1, [.ref gl, .ref gw, .ref gp, .ref gt, .int gs])), (gl, .inl (cI, 6, .inl le)), (gw, .inl (cI, 6, .inl wi)), (gp, .inl (cI, 6, .inl pr)), (gt, .inl (cI, 6, .inl (oJ7_fill_53178_f tp 6 (0 : Int32))))] := hD
  exact W.vret hx hb hr (fun t ht hW => ⟨⟨((oJ7_fill_53178_f tp 6 (0 : Int32))), rfl, (by unfold oX1_beFresh_tp; rfl), (by rw [ht]; exact hP.sub [0, 1, 2, 3, 4] rfl), va_K.moved hW.alike hK, hD.sub [0, 1, 2, 3, 4] (by decide) rfl⟩, hS.F ht⟩) hS.2.2 dX1_beFresh_8

/-! X1_laughsNow -/
def rX1_laughsNow (le : Nat → Int32) (wi : Nat → Int32) (pr : Nat → Int32) (tp : Nat → Int32) (gs : Int32) (p1 : Int32) : Int32 := ((wi (p1).toNatClampNeg) >>> ((if (31 : Int32) < (tp (p1).toNatClampNeg) then (31 : Int32) else (tp (p1).toNatClampNeg)) &&& 31))
set_option maxRecDepth 20000 in
theorem iX1_laughsNow_X1 : ∀ w ∈ u_ws RX1 TX1 5, w ∈ wsX1_laughsNow := by decide +kernel
set_option maxRecDepth 20000 in
theorem kX1_laughsNow_1 : Cond.fieldLink RX1 15 "MaskHall$Gags" "wits" "[I" ∈ wsX1_laughsNow := by decide +kernel
set_option maxRecDepth 20000 in
theorem kX1_laughsNow_2 : Cond.fieldLink RX1 21 "MaskHall$Gags" "timesPlayed" "[I" ∈ wsX1_laughsNow := by decide +kernel
set_option maxRecDepth 20000 in
theorem kX1_laughsNow_3 : Cond.methodLink RX1 34 Lib.Math.min.name ∈ wsX1_laughsNow := by decide +kernel
set_option maxRecDepth 20000 in
theorem kX1_laughsNow_4 : Cond.static Lib.Math.min.name ∈ wsX1_laughsNow := by decide +kernel
set_option maxRecDepth 20000 in
theorem kX1_laughsNow_5 : Cond.initialized "java/lang/Math" ∈ wsX1_laughsNow := by decide +kernel
set_option maxRecDepth 20000 in
theorem kX1_laughsNow_6 : Cond.code Lib.Math.min.name Lib.Math.min.code 2 (some .int) ∈ wsX1_laughsNow := by decide +kernel
set_option maxHeartbeats 420000 in
set_option maxRecDepth 100000 in
theorem c_X1_laughsNow (l : Launch) (dC : Nat → ClassId) (dI : Nat → Nat → Nat) (cI cJ : ClassId) (ga gl gw gp gt : Nat) (sz : Nat) (le : Nat → Int32) (wi : Nat → Int32) (pr : Nat → Int32) (tp : Nat → Int32) (gs : Int32) (p1 : Int32) (hin1 : vp_in p1 6) : Met l yX1_laughsNow wsX1_laughsNow ({ frames := 1, cells := 0, slots := 0, locals := 21 }) (va_Pc [.ref ga, .int p1] (zI (dC, dI) [(cI, .int), (cJ, .long)] [(ga, .inr (1, [.ref gl, .ref gw, .ref gp, .ref gt, .int gs])), (gl, .inl (cI, 6, .inl le)), (gw, .inl (cI, 6, .inl wi)), (gp, .inl (cI, 6, .inl pr)), (gt, .inl (cI, 6, .inl tp))] sz)) (vp_Si (fun r => r = rX1_laughsNow le wi pr tp gs p1)) 0 0 (fun _ => False) := by
  refine Met.ofW (cc := cX1_laughsNow) (maxL := 2) (ret := (some .int)) (by decide) rfl ?_
  intro p e s m args below meth c s₁ B hml hv
  obtain ⟨rfl, hsz, hP, hK, hD0, hG⟩ := hv
  have hx := B.exec
  have hb := B.bytes
  have hr := B.returns
  have hts := atoms_spec (ws := wsX1_laughsNow) B.pre
  have hown : s.vm.findClass RX1 = some m.cls := findClass_of_methodNamed B.named
  have hlocks := B.notSynchronized
  subst hsz
  have hD := hD0.self (sz := s.heap.size)
  generalize hAe : va_A [(ga, .inr (1, [.ref gl, .ref gw, .ref gp, .ref gt, .int gs])), (gl, .inl (cI, 6, .inl le)), (gw, .inl (cI, 6, .inl wi)), (gp, .inl (cI, 6, .inl pr)), (gt, .inl (cI, 6, .inl tp))] s.heap.size = A at hD hG
  have hA : ∀ q : Nat, s.heap.size ≤ q → A q := fun q h => by rw [← hAe]; exact Or.inr h
  have hS : va_S A s.heap s.heap [] := va_S.rf
  have hP : va_P (dC, dI) vwCl [(ga, .inr (1, [.ref gl, .ref gw, .ref gp, .ref gt, .int gs])), (gl, .inl (cI, 6, .inl le)), (gw, .inl (cI, 6, .inl wi)), (gp, .inl (cI, 6, .inl pr)), (gt, .inl (cI, 6, .inl tp))] s.heap := hP
  have hl := lv_entry ([.ref ga, .int p1]) (n := 2) (Nat.le_of_ble_eq_true rfl)
  rw [lg_entry_eq]
  generalize (lg_sl ([.ref ga, .int p1]) ++ List.replicate (2 - (lg_sl ([.ref ga, .int p1])).length) Slot.unset).toArray = ls at hl ⊢
  have hl : lv_has ls 2 [(0, .ref ga), (1, .int p1)] := hl
  refine lv_aload_n hx hb dX1_laughsNow_0 rfl (lv_at hl 0 rfl) ?_
  refine va_get (D := (dC, dI)) (ci := 1) (v := .ref gw) (C := RX1) (T := TX1) (N := 5) hx hb hts iX1_laughsNow_X1 hown hK hP 0 rfl rfl 1 (by decide) (hts _ kX1_laughsNow_1) (fun _ h9 => h9) rfl dX1_laughsNow_1 ?_
  refine lv_iload_n hx hb dX1_laughsNow_4 rfl (lv_at hl 1 rfl) ?_
  refine va_iald hx hb hK hP 2 0 rfl rfl (i := p1) hin1 dX1_laughsNow_5 ?_
  refine lv_aload_n hx hb dX1_laughsNow_6 rfl (lv_at hl 0 rfl) ?_
  refine va_get (D := (dC, dI)) (ci := 1) (v := .ref gt) (C := RX1) (T := TX1) (N := 5) hx hb hts iX1_laughsNow_X1 hown hK hP 0 rfl rfl 3 (by decide) (hts _ kX1_laughsNow_2) (fun _ h9 => h9) rfl dX1_laughsNow_7 ?_
  refine lv_iload_n hx hb dX1_laughsNow_10 rfl (lv_at hl 1 rfl) ?_
  refine va_iald hx hb hK hP 4 0 rfl rfl (i := p1) hin1 dX1_laughsNow_11 ?_
  refine lv_bipush (v := 31) hx hb dX1_laughsNow_12 (by decide) ?_
  refine va_mmin hx hb (hml.trans hl.1.symm) hown (hts _ kX1_laughsNow_3) (hts _ kX1_laughsNow_4) (hts _ kX1_laughsNow_5) (hts _ kX1_laughsNow_6) (Nat.le_of_ble_eq_true rfl) (Nat.le_of_ble_eq_true rfl) (Nat.le_of_ble_eq_true rfl) (Nat.le_of_ble_eq_true rfl) dX1_laughsNow_14 ?_
  refine lv_ishr hx hb dX1_laughsNow_17 ?_
  exact W.iret (v := ((wi (p1).toNatClampNeg) >>> ((if (31 : Int32) < (tp (p1).toNatClampNeg) then (31 : Int32) else (tp (p1).toNatClampNeg)) &&& 31))) hx hb hr (fun t ht hW => ⟨_, rfl, (by unfold rX1_laughsNow; rfl), ht⟩) (fun q hq => absurd hq List.not_mem_nil) dX1_laughsNow_18

/-! X7_needMask -/
def xX7_needMask (p0 : Int32) : Nat := (if p0 < 0 then 1 else (if p0 < (6 : Int32) then 0 else 1))
set_option maxRecDepth 20000 in
theorem tX7_needMask_193 : ∀ w ∈ (vx_atS RX7 193 "java/lang/IndexOutOfBoundsException" ["java/lang/RuntimeException", "java/lang/Exception"]).filter goodWord, w ∈ wsX7_needMask := by decide +kernel
set_option maxRecDepth 20000 in
theorem kX7_needMask_1 : Cond.classLink RX7 189 "java/lang/IndexOutOfBoundsException" ∈ wsX7_needMask := by decide +kernel
set_option maxRecDepth 20000 in
theorem kX7_needMask_2 : Cond.initialized "java/lang/IndexOutOfBoundsException" ∈ wsX7_needMask := by decide +kernel
set_option maxHeartbeats 300000 in
set_option maxRecDepth 100000 in
theorem c_X7_needMask (l : Launch) (hfl : l.stackTraces = false) (dC : Nat → ClassId) (dI : Nat → Nat → Nat) (cI cJ : ClassId) (sz : Nat) (p0 : Int32) : vx_Met l yX7_needMask wsX7_needMask ({ frames := 6, cells := 1, slots := 6, locals := 82 }) (va_Pc [.int p0] (zI (dC, dI) [(cI, .int), (cJ, .long)] [] sz)) (va_Sv (fun _ => xX7_needMask p0 = 0)) (zX (fun k => xX7_needMask p0 = k ∧ k ≠ 0) sz) 1 6 (fun _ => False) := by
  refine vx_ofW (cc := cX7_needMask) (maxL := 1) (ret := none) (by decide) rfl ?_
  intro p e s m args below meth c s₁ B hml hto hv
  obtain ⟨rfl, hsz, hP, hK, hD0, hG⟩ := hv
  have hx := B.exec
  have hb := B.bytes
  have hr := B.returns
  have hts := atoms_spec (ws := wsX7_needMask) B.pre
  have hown : s.vm.findClass RX7 = some m.cls := findClass_of_methodNamed B.named
  have hlocks := B.notSynchronized
  subst hsz
  have hD := hD0.self (sz := s.heap.size)
  generalize hAe : va_A [] s.heap.size = A at hD hG
  have hA : ∀ q : Nat, s.heap.size ≤ q → A q := fun q h => by rw [← hAe]; exact Or.inr h
  have hS : va_S A s.heap s.heap [] := va_S.rf
  have hP : va_P (dC, dI) vwCl [] s.heap := hP
  have hl := lv_entry ([.int p0]) (n := 1) (Nat.le_of_ble_eq_true rfl)
  rw [lg_entry_eq]
  generalize (lg_sl ([.int p0]) ++ List.replicate (1 - (lg_sl ([.int p0])).length) Slot.unset).toArray = ls at hl ⊢
  have hl : lv_has ls 1 [(0, .int p0)] := hl
  refine lv_iload_n hx hb dX7_needMask_0 rfl (lv_at hl 0 rfl) ?_
  refine lv_if_lt (tgt := 10) hx hb dX7_needMask_1 (by decide) (fun c_1 => ?_) (fun c_1 => ?_)
  · obtain ⟨sa, hstr⟩ := hG.1.2.1 _ (List.mem_of_getElem? (i := 0) rfl)
    exact vx_throwS (names := ["java/lang/RuntimeException", "java/lang/Exception"]) (cls := "java/lang/IndexOutOfBoundsException") (sa := sa) hx hb hfl hown (by decide) (by decide) (hts _ kX7_needMask_1) (hts _ kX7_needMask_2) hstr (zHat1_193 hG.1 (fun w h => hts w (tX7_needMask_193 w h))) zGood1_193_189 hG.2.1.1 hG.2.1.2 hS (hl.1.trans hml.symm) dX7_needMask_10 dX7_needMask_13 dX7_needMask_14 dX7_needMask_16 dX7_needMask_19 (fun x h => (hto x h).elim) (Nat.le_of_ble_eq_true rfl) (Nat.le_of_ble_eq_true rfl) (Nat.le_of_ble_eq_true rfl) (Nat.le_of_ble_eq_true rfl) hlocks (fun t hW hz1 hk1 => ⟨1, ⟨(by unfold xX7_needMask; rw [if_pos c_1]), by decide⟩, rfl, hz1, fun q h9 _ => hk1 q h9⟩) (fun z h => absurd h List.not_mem_nil) (by decide) (by decide)
  · refine lv_iload_n hx hb dX7_needMask_4 rfl (lv_at hl 0 rfl) ?_
    refine lv_bipush (v := 6) hx hb dX7_needMask_5 (by decide) ?_
    refine lv_icmp_lt (tgt := 20) hx hb dX7_needMask_7 (by decide) (fun c_2 => ?_) (fun c_2 => ?_)
    · exact W.widen (k := 1) (n := 6) (by decide) (by decide) (vx_ret (W.vret hx hb hr (fun t ht hW => ⟨rfl, (by unfold xX7_needMask; rw [if_neg c_1, if_pos c_2]), ht⟩) (fun q hq => absurd hq List.not_mem_nil) dX7_needMask_20))
    · obtain ⟨sa, hstr⟩ := hG.1.2.1 _ (List.mem_of_getElem? (i := 0) rfl)
      exact vx_throwS (names := ["java/lang/RuntimeException", "java/lang/Exception"]) (cls := "java/lang/IndexOutOfBoundsException") (sa := sa) hx hb hfl hown (by decide) (by decide) (hts _ kX7_needMask_1) (hts _ kX7_needMask_2) hstr (zHat1_193 hG.1 (fun w h => hts w (tX7_needMask_193 w h))) zGood1_193_189 hG.2.1.1 hG.2.1.2 hS (hl.1.trans hml.symm) dX7_needMask_10 dX7_needMask_13 dX7_needMask_14 dX7_needMask_16 dX7_needMask_19 (fun x h => (hto x h).elim) (Nat.le_of_ble_eq_true rfl) (Nat.le_of_ble_eq_true rfl) (Nat.le_of_ble_eq_true rfl) (Nat.le_of_ble_eq_true rfl) hlocks (fun t hW hz1 hk1 => ⟨1, ⟨(by unfold xX7_needMask; rw [if_neg c_1, if_neg c_2]), by decide⟩, rfl, hz1, fun q h9 _ => hk1 q h9⟩) (fun z h => absurd h List.not_mem_nil) (by decide) (by decide)

/-! X7_needSecret -/
def xX7_needSecret (p0 : Int32) : Nat := (if p0 < 0 then 1 else (if p0 < (4 : Int32) then 0 else 1))
set_option maxRecDepth 20000 in
theorem tX7_needSecret_193 : ∀ w ∈ (vx_atS RX7 193 "java/lang/IndexOutOfBoundsException" ["java/lang/RuntimeException", "java/lang/Exception"]).filter goodWord, w ∈ wsX7_needSecret := by decide +kernel
set_option maxRecDepth 20000 in
theorem kX7_needSecret_1 : Cond.classLink RX7 189 "java/lang/IndexOutOfBoundsException" ∈ wsX7_needSecret := by decide +kernel
set_option maxRecDepth 20000 in
theorem kX7_needSecret_2 : Cond.initialized "java/lang/IndexOutOfBoundsException" ∈ wsX7_needSecret := by decide +kernel
set_option maxHeartbeats 300000 in
set_option maxRecDepth 100000 in
theorem c_X7_needSecret (l : Launch) (hfl : l.stackTraces = false) (dC : Nat → ClassId) (dI : Nat → Nat → Nat) (cI cJ : ClassId) (sz : Nat) (p0 : Int32) : vx_Met l yX7_needSecret wsX7_needSecret ({ frames := 6, cells := 1, slots := 6, locals := 82 }) (va_Pc [.int p0] (zI (dC, dI) [(cI, .int), (cJ, .long)] [] sz)) (va_Sv (fun _ => xX7_needSecret p0 = 0)) (zX (fun k => xX7_needSecret p0 = k ∧ k ≠ 0) sz) 1 6 (fun _ => False) := by
  refine vx_ofW (cc := cX7_needSecret) (maxL := 1) (ret := none) (by decide) rfl ?_
  intro p e s m args below meth c s₁ B hml hto hv
  obtain ⟨rfl, hsz, hP, hK, hD0, hG⟩ := hv
  have hx := B.exec
  have hb := B.bytes
  have hr := B.returns
  have hts := atoms_spec (ws := wsX7_needSecret) B.pre
  have hown : s.vm.findClass RX7 = some m.cls := findClass_of_methodNamed B.named
  have hlocks := B.notSynchronized
  subst hsz
  have hD := hD0.self (sz := s.heap.size)
  generalize hAe : va_A [] s.heap.size = A at hD hG
  have hA : ∀ q : Nat, s.heap.size ≤ q → A q := fun q h => by rw [← hAe]; exact Or.inr h
  have hS : va_S A s.heap s.heap [] := va_S.rf
  have hP : va_P (dC, dI) vwCl [] s.heap := hP
  have hl := lv_entry ([.int p0]) (n := 1) (Nat.le_of_ble_eq_true rfl)
  rw [lg_entry_eq]
  generalize (lg_sl ([.int p0]) ++ List.replicate (1 - (lg_sl ([.int p0])).length) Slot.unset).toArray = ls at hl ⊢
  have hl : lv_has ls 1 [(0, .int p0)] := hl
  refine lv_iload_n hx hb dX7_needSecret_0 rfl (lv_at hl 0 rfl) ?_
  refine lv_if_lt (tgt := 9) hx hb dX7_needSecret_1 (by decide) (fun c_1 => ?_) (fun c_1 => ?_)
  · obtain ⟨sa, hstr⟩ := hG.1.2.1 _ (List.mem_of_getElem? (i := 1) rfl)
    exact vx_throwS (names := ["java/lang/RuntimeException", "java/lang/Exception"]) (cls := "java/lang/IndexOutOfBoundsException") (sa := sa) hx hb hfl hown (by decide) (by decide) (hts _ kX7_needSecret_1) (hts _ kX7_needSecret_2) hstr (zHat1_193 hG.1 (fun w h => hts w (tX7_needSecret_193 w h))) zGood1_193_189 hG.2.1.1 hG.2.1.2 hS (hl.1.trans hml.symm) dX7_needSecret_9 dX7_needSecret_12 dX7_needSecret_13 dX7_needSecret_15 dX7_needSecret_18 (fun x h => (hto x h).elim) (Nat.le_of_ble_eq_true rfl) (Nat.le_of_ble_eq_true rfl) (Nat.le_of_ble_eq_true rfl) (Nat.le_of_ble_eq_true rfl) hlocks (fun t hW hz1 hk1 => ⟨1, ⟨(by unfold xX7_needSecret; rw [if_pos c_1]), by decide⟩, rfl, hz1, fun q h9 _ => hk1 q h9⟩) (fun z h => absurd h List.not_mem_nil) (by decide) (by decide)
  · refine lv_iload_n hx hb dX7_needSecret_4 rfl (lv_at hl 0 rfl) ?_
    refine lv_iconst (v := 4) hx hb dX7_needSecret_5 (by decide) ?_
    refine lv_icmp_lt (tgt := 19) hx hb dX7_needSecret_6 (by decide) (fun c_2 => ?_) (fun c_2 => ?_)
    · exact W.widen (k := 1) (n := 6) (by decide) (by decide) (vx_ret (W.vret hx hb hr (fun t ht hW => ⟨rfl, (by unfold xX7_needSecret; rw [if_neg c_1, if_pos c_2]), ht⟩) (fun q hq => absurd hq List.not_mem_nil) dX7_needSecret_19))
    · obtain ⟨sa, hstr⟩ := hG.1.2.1 _ (List.mem_of_getElem? (i := 1) rfl)
      exact vx_throwS (names := ["java/lang/RuntimeException", "java/lang/Exception"]) (cls := "java/lang/IndexOutOfBoundsException") (sa := sa) hx hb hfl hown (by decide) (by decide) (hts _ kX7_needSecret_1) (hts _ kX7_needSecret_2) hstr (zHat1_193 hG.1 (fun w h => hts w (tX7_needSecret_193 w h))) zGood1_193_189 hG.2.1.1 hG.2.1.2 hS (hl.1.trans hml.symm) dX7_needSecret_9 dX7_needSecret_12 dX7_needSecret_13 dX7_needSecret_15 dX7_needSecret_18 (fun x h => (hto x h).elim) (Nat.le_of_ble_eq_true rfl) (Nat.le_of_ble_eq_true rfl) (Nat.le_of_ble_eq_true rfl) (Nat.le_of_ble_eq_true rfl) hlocks (fun t hW hz1 hk1 => ⟨1, ⟨(by unfold xX7_needSecret; rw [if_neg c_1, if_neg c_2]), by decide⟩, rfl, hz1, fun q h9 _ => hk1 q h9⟩) (fun z h => absurd h List.not_mem_nil) (by decide) (by decide)

/-! X7_needProp -/
def xX7_needProp (p0 : Int32) : Nat := (if p0 < 0 then 1 else (if p0 < (4 : Int32) then 0 else 1))
set_option maxRecDepth 20000 in
theorem tX7_needProp_193 : ∀ w ∈ (vx_atS RX7 193 "java/lang/IndexOutOfBoundsException" ["java/lang/RuntimeException", "java/lang/Exception"]).filter goodWord, w ∈ wsX7_needProp := by decide +kernel
set_option maxRecDepth 20000 in
theorem kX7_needProp_1 : Cond.classLink RX7 189 "java/lang/IndexOutOfBoundsException" ∈ wsX7_needProp := by decide +kernel
set_option maxRecDepth 20000 in
theorem kX7_needProp_2 : Cond.initialized "java/lang/IndexOutOfBoundsException" ∈ wsX7_needProp := by decide +kernel
set_option maxHeartbeats 300000 in
set_option maxRecDepth 100000 in
theorem c_X7_needProp (l : Launch) (hfl : l.stackTraces = false) (dC : Nat → ClassId) (dI : Nat → Nat → Nat) (cI cJ : ClassId) (sz : Nat) (p0 : Int32) : vx_Met l yX7_needProp wsX7_needProp ({ frames := 6, cells := 1, slots := 6, locals := 82 }) (va_Pc [.int p0] (zI (dC, dI) [(cI, .int), (cJ, .long)] [] sz)) (va_Sv (fun _ => xX7_needProp p0 = 0)) (zX (fun k => xX7_needProp p0 = k ∧ k ≠ 0) sz) 1 6 (fun _ => False) := by
  refine vx_ofW (cc := cX7_needProp) (maxL := 1) (ret := none) (by decide) rfl ?_
  intro p e s m args below meth c s₁ B hml hto hv
  obtain ⟨rfl, hsz, hP, hK, hD0, hG⟩ := hv
  have hx := B.exec
  have hb := B.bytes
  have hr := B.returns
  have hts := atoms_spec (ws := wsX7_needProp) B.pre
  have hown : s.vm.findClass RX7 = some m.cls := findClass_of_methodNamed B.named
  have hlocks := B.notSynchronized
  subst hsz
  have hD := hD0.self (sz := s.heap.size)
  generalize hAe : va_A [] s.heap.size = A at hD hG
  have hA : ∀ q : Nat, s.heap.size ≤ q → A q := fun q h => by rw [← hAe]; exact Or.inr h
  have hS : va_S A s.heap s.heap [] := va_S.rf
  have hP : va_P (dC, dI) vwCl [] s.heap := hP
  have hl := lv_entry ([.int p0]) (n := 1) (Nat.le_of_ble_eq_true rfl)
  rw [lg_entry_eq]
  generalize (lg_sl ([.int p0]) ++ List.replicate (1 - (lg_sl ([.int p0])).length) Slot.unset).toArray = ls at hl ⊢
  have hl : lv_has ls 1 [(0, .int p0)] := hl
  refine lv_iload_n hx hb dX7_needProp_0 rfl (lv_at hl 0 rfl) ?_
  refine lv_if_lt (tgt := 9) hx hb dX7_needProp_1 (by decide) (fun c_1 => ?_) (fun c_1 => ?_)
  · obtain ⟨sa, hstr⟩ := hG.1.2.1 _ (List.mem_of_getElem? (i := 2) rfl)
    exact vx_throwS (names := ["java/lang/RuntimeException", "java/lang/Exception"]) (cls := "java/lang/IndexOutOfBoundsException") (sa := sa) hx hb hfl hown (by decide) (by decide) (hts _ kX7_needProp_1) (hts _ kX7_needProp_2) hstr (zHat1_193 hG.1 (fun w h => hts w (tX7_needProp_193 w h))) zGood1_193_189 hG.2.1.1 hG.2.1.2 hS (hl.1.trans hml.symm) dX7_needProp_9 dX7_needProp_12 dX7_needProp_13 dX7_needProp_15 dX7_needProp_18 (fun x h => (hto x h).elim) (Nat.le_of_ble_eq_true rfl) (Nat.le_of_ble_eq_true rfl) (Nat.le_of_ble_eq_true rfl) (Nat.le_of_ble_eq_true rfl) hlocks (fun t hW hz1 hk1 => ⟨1, ⟨(by unfold xX7_needProp; rw [if_pos c_1]), by decide⟩, rfl, hz1, fun q h9 _ => hk1 q h9⟩) (fun z h => absurd h List.not_mem_nil) (by decide) (by decide)
  · refine lv_iload_n hx hb dX7_needProp_4 rfl (lv_at hl 0 rfl) ?_
    refine lv_iconst (v := 4) hx hb dX7_needProp_5 (by decide) ?_
    refine lv_icmp_lt (tgt := 19) hx hb dX7_needProp_6 (by decide) (fun c_2 => ?_) (fun c_2 => ?_)
    · exact W.widen (k := 1) (n := 6) (by decide) (by decide) (vx_ret (W.vret hx hb hr (fun t ht hW => ⟨rfl, (by unfold xX7_needProp; rw [if_neg c_1, if_pos c_2]), ht⟩) (fun q hq => absurd hq List.not_mem_nil) dX7_needProp_19))
    · obtain ⟨sa, hstr⟩ := hG.1.2.1 _ (List.mem_of_getElem? (i := 2) rfl)
      exact vx_throwS (names := ["java/lang/RuntimeException", "java/lang/Exception"]) (cls := "java/lang/IndexOutOfBoundsException") (sa := sa) hx hb hfl hown (by decide) (by decide) (hts _ kX7_needProp_1) (hts _ kX7_needProp_2) hstr (zHat1_193 hG.1 (fun w h => hts w (tX7_needProp_193 w h))) zGood1_193_189 hG.2.1.1 hG.2.1.2 hS (hl.1.trans hml.symm) dX7_needProp_9 dX7_needProp_12 dX7_needProp_13 dX7_needProp_15 dX7_needProp_18 (fun x h => (hto x h).elim) (Nat.le_of_ble_eq_true rfl) (Nat.le_of_ble_eq_true rfl) (Nat.le_of_ble_eq_true rfl) (Nat.le_of_ble_eq_true rfl) hlocks (fun t hW hz1 hk1 => ⟨1, ⟨(by unfold xX7_needProp; rw [if_neg c_1, if_neg c_2]), by decide⟩, rfl, hz1, fun q h9 _ => hk1 q h9⟩) (fun z h => absurd h List.not_mem_nil) (by decide) (by decide)

/-! X7_needRange -/
def xX7_needRange (p0 : Int32) (p1 : Int32) (p2 : Int32) : Nat := (if p0 < p1 then 2 else (if p0 ≤ p2 then 0 else 2))
set_option maxRecDepth 20000 in
theorem tX7_needRange_247 : ∀ w ∈ (vx_atS RX7 247 "java/lang/IllegalArgumentException" ["java/lang/RuntimeException", "java/lang/Exception"]).filter goodWord, w ∈ wsX7_needRange := by decide +kernel
set_option maxRecDepth 20000 in
theorem kX7_needRange_1 : Cond.classLink RX7 243 "java/lang/IllegalArgumentException" ∈ wsX7_needRange := by decide +kernel
set_option maxRecDepth 20000 in
theorem kX7_needRange_2 : Cond.initialized "java/lang/IllegalArgumentException" ∈ wsX7_needRange := by decide +kernel
set_option maxHeartbeats 320000 in
set_option maxRecDepth 100000 in
theorem c_X7_needRange (l : Launch) (hfl : l.stackTraces = false) (dC : Nat → ClassId) (dI : Nat → Nat → Nat) (cI cJ : ClassId) (sz : Nat) (p0 : Int32) (p1 : Int32) (p2 : Int32) : vx_Met l yX7_needRange wsX7_needRange ({ frames := 6, cells := 1, slots := 6, locals := 82 }) (va_Pc [.int p0, .int p1, .int p2] (zI (dC, dI) [(cI, .int), (cJ, .long)] [] sz)) (va_Sv (fun _ => xX7_needRange p0 p1 p2 = 0)) (zX (fun k => xX7_needRange p0 p1 p2 = k ∧ k ≠ 0) sz) 1 6 (fun _ => False) := by
  refine vx_ofW (cc := cX7_needRange) (maxL := 3) (ret := none) (by decide) rfl ?_
  intro p e s m args below meth c s₁ B hml hto hv
  obtain ⟨rfl, hsz, hP, hK, hD0, hG⟩ := hv
  have hx := B.exec
  have hb := B.bytes
  have hr := B.returns
  have hts := atoms_spec (ws := wsX7_needRange) B.pre
  have hown : s.vm.findClass RX7 = some m.cls := findClass_of_methodNamed B.named
  have hlocks := B.notSynchronized
  subst hsz
  have hD := hD0.self (sz := s.heap.size)
  generalize hAe : va_A [] s.heap.size = A at hD hG
  have hA : ∀ q : Nat, s.heap.size ≤ q → A q := fun q h => by rw [← hAe]; exact Or.inr h
  have hS : va_S A s.heap s.heap [] := va_S.rf
  have hP : va_P (dC, dI) vwCl [] s.heap := hP
  have hl := lv_entry ([.int p0, .int p1, .int p2]) (n := 3) (Nat.le_of_ble_eq_true rfl)
  rw [lg_entry_eq]
  generalize (lg_sl ([.int p0, .int p1, .int p2]) ++ List.replicate (3 - (lg_sl ([.int p0, .int p1, .int p2])).length) Slot.unset).toArray = ls at hl ⊢
  have hl : lv_has ls 3 [(0, .int p0), (1, .int p1), (2, .int p2)] := hl
  refine lv_iload_n hx hb dX7_needRange_0 rfl (lv_at hl 0 rfl) ?_
  refine lv_iload_n hx hb dX7_needRange_1 rfl (lv_at hl 1 rfl) ?_
  refine lv_icmp_lt (tgt := 10) hx hb dX7_needRange_2 (by decide) (fun c_1 => ?_) (fun c_1 => ?_)
  · obtain ⟨sa, hstr⟩ := hG.1.2.1 _ (List.mem_of_getElem? (i := 3) rfl)
    exact vx_throwS (names := ["java/lang/RuntimeException", "java/lang/Exception"]) (cls := "java/lang/IllegalArgumentException") (sa := sa) hx hb hfl hown (by decide) (by decide) (hts _ kX7_needRange_1) (hts _ kX7_needRange_2) hstr (zHat2_247 hG.1 (fun w h => hts w (tX7_needRange_247 w h))) zGood2_247_243 hG.2.1.1 hG.2.1.2 hS (hl.1.trans hml.symm) dX7_needRange_10 dX7_needRange_13 dX7_needRange_14 dX7_needRange_16 dX7_needRange_19 (fun x h => (hto x h).elim) (Nat.le_of_ble_eq_true rfl) (Nat.le_of_ble_eq_true rfl) (Nat.le_of_ble_eq_true rfl) (Nat.le_of_ble_eq_true rfl) hlocks (fun t hW hz1 hk1 => ⟨2, ⟨(by unfold xX7_needRange; rw [if_pos c_1]), by decide⟩, rfl, hz1, fun q h9 _ => hk1 q h9⟩) (fun z h => absurd h List.not_mem_nil) (by decide) (by decide)
  · refine lv_iload_n hx hb dX7_needRange_5 rfl (lv_at hl 0 rfl) ?_
    refine lv_iload_n hx hb dX7_needRange_6 rfl (lv_at hl 2 rfl) ?_
    refine lv_icmp_le (tgt := 20) hx hb dX7_needRange_7 (by decide) (fun c_2 => ?_) (fun c_2 => ?_)
    · exact W.widen (k := 1) (n := 6) (by decide) (by decide) (vx_ret (W.vret hx hb hr (fun t ht hW => ⟨rfl, (by unfold xX7_needRange; rw [if_neg c_1, if_pos c_2]), ht⟩) (fun q hq => absurd hq List.not_mem_nil) dX7_needRange_20))
    · obtain ⟨sa, hstr⟩ := hG.1.2.1 _ (List.mem_of_getElem? (i := 3) rfl)
      exact vx_throwS (names := ["java/lang/RuntimeException", "java/lang/Exception"]) (cls := "java/lang/IllegalArgumentException") (sa := sa) hx hb hfl hown (by decide) (by decide) (hts _ kX7_needRange_1) (hts _ kX7_needRange_2) hstr (zHat2_247 hG.1 (fun w h => hts w (tX7_needRange_247 w h))) zGood2_247_243 hG.2.1.1 hG.2.1.2 hS (hl.1.trans hml.symm) dX7_needRange_10 dX7_needRange_13 dX7_needRange_14 dX7_needRange_16 dX7_needRange_19 (fun x h => (hto x h).elim) (Nat.le_of_ble_eq_true rfl) (Nat.le_of_ble_eq_true rfl) (Nat.le_of_ble_eq_true rfl) (Nat.le_of_ble_eq_true rfl) hlocks (fun t hW hz1 hk1 => ⟨2, ⟨(by unfold xX7_needRange; rw [if_neg c_1, if_neg c_2]), by decide⟩, rfl, hz1, fun q h9 _ => hk1 q h9⟩) (fun z h => absurd h List.not_mem_nil) (by decide) (by decide)

/-! X7_needUnlike -/
def xX7_needUnlike (p0 : Int32) (p1 : Int32) : Nat := (if p0 = p1 then 2 else 0)
set_option maxRecDepth 20000 in
theorem tX7_needUnlike_247 : ∀ w ∈ (vx_atS RX7 247 "java/lang/IllegalArgumentException" ["java/lang/RuntimeException", "java/lang/Exception"]).filter goodWord, w ∈ wsX7_needUnlike := by decide +kernel
set_option maxRecDepth 20000 in
theorem kX7_needUnlike_1 : Cond.classLink RX7 243 "java/lang/IllegalArgumentException" ∈ wsX7_needUnlike := by decide +kernel
set_option maxRecDepth 20000 in
theorem kX7_needUnlike_2 : Cond.initialized "java/lang/IllegalArgumentException" ∈ wsX7_needUnlike := by decide +kernel
set_option maxHeartbeats 260000 in
set_option maxRecDepth 100000 in
theorem c_X7_needUnlike (l : Launch) (hfl : l.stackTraces = false) (dC : Nat → ClassId) (dI : Nat → Nat → Nat) (cI cJ : ClassId) (sz : Nat) (p0 : Int32) (p1 : Int32) : vx_Met l yX7_needUnlike wsX7_needUnlike ({ frames := 6, cells := 1, slots := 6, locals := 82 }) (va_Pc [.int p0, .int p1] (zI (dC, dI) [(cI, .int), (cJ, .long)] [] sz)) (va_Sv (fun _ => xX7_needUnlike p0 p1 = 0)) (zX (fun k => xX7_needUnlike p0 p1 = k ∧ k ≠ 0) sz) 1 6 (fun _ => False) := by
  refine vx_ofW (cc := cX7_needUnlike) (maxL := 2) (ret := none) (by decide) rfl ?_
  intro p e s m args below meth c s₁ B hml hto hv
  obtain ⟨rfl, hsz, hP, hK, hD0, hG⟩ := hv
  have hx := B.exec
  have hb := B.bytes
  have hr := B.returns
  have hts := atoms_spec (ws := wsX7_needUnlike) B.pre
  have hown : s.vm.findClass RX7 = some m.cls := findClass_of_methodNamed B.named
  have hlocks := B.notSynchronized
  subst hsz
  have hD := hD0.self (sz := s.heap.size)
  generalize hAe : va_A [] s.heap.size = A at hD hG
  have hA : ∀ q : Nat, s.heap.size ≤ q → A q := fun q h => by rw [← hAe]; exact Or.inr h
  have hS : va_S A s.heap s.heap [] := va_S.rf
  have hP : va_P (dC, dI) vwCl [] s.heap := hP
  have hl := lv_entry ([.int p0, .int p1]) (n := 2) (Nat.le_of_ble_eq_true rfl)
  rw [lg_entry_eq]
  generalize (lg_sl ([.int p0, .int p1]) ++ List.replicate (2 - (lg_sl ([.int p0, .int p1])).length) Slot.unset).toArray = ls at hl ⊢
  have hl : lv_has ls 2 [(0, .int p0), (1, .int p1)] := hl
  refine lv_iload_n hx hb dX7_needUnlike_0 rfl (lv_at hl 0 rfl) ?_
  refine lv_iload_n hx hb dX7_needUnlike_1 rfl (lv_at hl 1 rfl) ?_
  refine lv_icmp_ne (tgt := 16) hx hb dX7_needUnlike_2 (by decide) (fun c_1 => ?_) (fun c_1 => ?_)
  · exact W.widen (k := 1) (n := 6) (by decide) (by decide) (vx_ret (W.vret hx hb hr (fun t ht hW => ⟨rfl, (by unfold xX7_needUnlike; rw [if_neg c_1]), ht⟩) (fun q hq => absurd hq List.not_mem_nil) dX7_needUnlike_16))
  · obtain ⟨sa, hstr⟩ := hG.1.2.1 _ (List.mem_of_getElem? (i := 4) rfl)
    exact vx_throwSW (names := ["java/lang/RuntimeException", "java/lang/Exception"]) (cls := "java/lang/IllegalArgumentException") (sa := sa) hx hb hfl hown (by decide) (by decide) (hts _ kX7_needUnlike_1) (hts _ kX7_needUnlike_2) hstr (zHat2_247 hG.1 (fun w h => hts w (tX7_needUnlike_247 w h))) zGood2_247_243 hG.2.1.1 hG.2.1.2 hS (hl.1.trans hml.symm) dX7_needUnlike_5 dX7_needUnlike_8 dX7_needUnlike_9 dX7_needUnlike_12 dX7_needUnlike_15 (fun x h => (hto x h).elim) (Nat.le_of_ble_eq_true rfl) (Nat.le_of_ble_eq_true rfl) (Nat.le_of_ble_eq_true rfl) (Nat.le_of_ble_eq_true rfl) hlocks (fun t hW hz1 hk1 => ⟨2, ⟨(by unfold xX7_needUnlike; rw [if_pos c_1]), by decide⟩, rfl, hz1, fun q h9 _ => hk1 q h9⟩) (fun z h => absurd h List.not_mem_nil) (by decide) (by decide)
