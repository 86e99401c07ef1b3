/-! X8_isIn -/
def rX8_isIn (p0 : Int32) (p1 : Int32) (p2 : Int32) : Int32 := (if p0 < p1 then (0 : Int32) else (if p2 < p0 then (0 : Int32) else (1 : Int32)))
set_option maxHeartbeats 400000 in
set_option maxRecDepth 100000 in
theorem c_X8_isIn (l : Launch) (dC : Nat → ClassId) (dI : Nat → Nat → Nat) (cI cJ : ClassId) (sz : Nat) (p0 : Int32) (p1 : Int32) (p2 : Int32) : Met l yX8_isIn wsX8_isIn ({ frames := 0, cells := 0, slots := 0, locals := 0 }) (va_Pc [.int p0, .int p1, .int p2] (zI (dC, dI) [(cI, .int), (cJ, .long)] [] sz)) (vp_Si (fun r => r = rX8_isIn p0 p1 p2)) 0 0 (fun _ => False) := by
  refine Met.ofW (cc := cX8_isIn) (maxL := 3) (ret := (some .boolean)) (by decide) rfl ?_
  intro p e s m args below meth c s₁ B hml hv
  obtain ⟨rfl, hsz, hP, hK, hD0, hG⟩ := hv
  have hx := B.exec
  have hb := B.bytes
  have hr := B.returns
  have hts := atoms_spec (ws := wsX8_isIn) B.pre
  have hown : s.vm.findClass RX8 = some m.cls := findClass_of_methodNamed B.named
  have hlocks := B.notSynchronized
  subst hsz
  have hD := hD0.self (sz := s.heap.size)
  generalize hAe : va_A [] s.heap.size = A at hD hG
  have hA : ∀ q : Nat, s.heap.size ≤ q → A q := fun q h => by rw [← hAe]; exact Or.inr h
  have hS : va_S A s.heap s.heap [] := va_S.rf
  have hP : va_P (dC, dI) vwCl [] s.heap := hP
  have hl := lv_entry ([.int p0, .int p1, .int p2]) (n := 3) (Nat.le_of_ble_eq_true rfl)
  rw [lg_entry_eq]
  generalize (lg_sl ([.int p0, .int p1, .int p2]) ++ List.replicate (3 - (lg_sl ([.int p0, .int p1, .int p2])).length) Slot.unset).toArray = ls at hl ⊢
  have hl : lv_has ls 3 [(0, .int p0), (1, .int p1), (2, .int p2)] := hl
  refine lv_iload_n hx hb dX8_isIn_0 rfl (lv_at hl 0 rfl) ?_
  refine lv_iload_n hx hb dX8_isIn_1 rfl (lv_at hl 1 rfl) ?_
  refine lv_icmp_lt (tgt := 14) hx hb dX8_isIn_2 (by decide) (fun c_1 => ?_) (fun c_1 => ?_)
  · refine lv_iconst (v := 0) hx hb dX8_isIn_14 (by decide) ?_
    exact W.zret (v := (0 : Int32)) hx hb hr (zNar (Or.inl rfl)) (fun t ht hW => ⟨_, rfl, (by unfold rX8_isIn; rw [if_pos c_1]), ht⟩) (fun q hq => absurd hq List.not_mem_nil) dX8_isIn_15
  · refine lv_iload_n hx hb dX8_isIn_5 rfl (lv_at hl 0 rfl) ?_
    refine lv_iload_n hx hb dX8_isIn_6 rfl (lv_at hl 2 rfl) ?_
    refine lv_icmp_gt (tgt := 14) hx hb dX8_isIn_7 (by decide) (fun c_2 => ?_) (fun c_2 => ?_)
    · refine lv_iconst (v := 0) hx hb dX8_isIn_14 (by decide) ?_
      exact W.zret (v := (0 : Int32)) hx hb hr (zNar (Or.inl rfl)) (fun t ht hW => ⟨_, rfl, (by unfold rX8_isIn; rw [if_neg c_1, if_pos c_2]), ht⟩) (fun q hq => absurd hq List.not_mem_nil) dX8_isIn_15
    · refine lv_iconst (v := 1) hx hb dX8_isIn_10 (by decide) ?_
      refine lv_goto (tgt := 15) hx hb dX8_isIn_11 (by decide) ?_
      exact W.zret (v := (1 : Int32)) hx hb hr (zNar (Or.inr rfl)) (fun t ht hW => ⟨_, rfl, (by unfold rX8_isIn; rw [if_neg c_1, if_neg c_2]), ht⟩) (fun q hq => absurd hq List.not_mem_nil) dX8_isIn_15
theorem brX8_isIn (p0 : Int32) (p1 : Int32) (p2 : Int32) : rX8_isIn p0 p1 p2 = 0 ∨ rX8_isIn p0 p1 p2 = 1 := by
  unfold rX8_isIn
  repeat' split
  all_goals first | exact Or.inl rfl | exact Or.inr rfl

/-! X8_isMask -/
def rX8_isMask (p0 : Int32) : Int32 := (rX8_isIn p0 (0 : Int32) (5 : Int32))
set_option maxHeartbeats 280000 in
set_option maxRecDepth 100000 in
theorem c_X8_isMask (l : Launch) (dC : Nat → ClassId) (dI : Nat → Nat → Nat) (cI cJ : ClassId) (sz : Nat) (p0 : Int32) : Met l yX8_isMask wsX8_isMask ({ frames := 1, cells := 0, slots := 0, locals := 22 }) (va_Pc [.int p0] (zI (dC, dI) [(cI, .int), (cJ, .long)] [] sz)) (vp_Si (fun r => r = rX8_isMask p0)) 0 0 (fun _ => False) := by
  refine Met.ofW (cc := cX8_isMask) (maxL := 1) (ret := (some .boolean)) (by decide) rfl ?_
  intro p e s m args below meth c s₁ B hml hv
  obtain ⟨rfl, hsz, hP, hK, hD0, hG⟩ := hv
  have hx := B.exec
  have hb := B.bytes
  have hr := B.returns
  have hts := atoms_spec (ws := wsX8_isMask) B.pre
  have hown : s.vm.findClass RX8 = some m.cls := findClass_of_methodNamed B.named
  have hlocks := B.notSynchronized
  subst hsz
  have hD := hD0.self (sz := s.heap.size)
  generalize hAe : va_A [] s.heap.size = A at hD hG
  have hA : ∀ q : Nat, s.heap.size ≤ q → A q := fun q h => by rw [← hAe]; exact Or.inr h
  have hS : va_S A s.heap s.heap [] := va_S.rf
  have hP : va_P (dC, dI) vwCl [] s.heap := hP
  have hl := lv_entry ([.int p0]) (n := 1) (Nat.le_of_ble_eq_true rfl)
  rw [lg_entry_eq]
  generalize (lg_sl ([.int p0]) ++ List.replicate (1 - (lg_sl ([.int p0])).length) Slot.unset).toArray = ls at hl ⊢
  have hl : lv_has ls 1 [(0, .int p0)] := hl
  refine lv_iload_n hx hb dX8_isMask_0 rfl (lv_at hl 0 rfl) ?_
  refine lv_iconst (v := 0) hx hb dX8_isMask_1 (by decide) ?_
  refine lv_iconst (v := 5) hx hb dX8_isMask_2 (by decide) ?_
  refine zcSi (va_runS (As := [.int p0, .int (0 : Int32), .int (5 : Int32)]) (rest := []) ⟨hx, hb, hml, hown, hts⟩ (c_X8_isIn l dC dI cI cJ s.heap.size p0 (0 : Int32) (5 : Int32) ) (va_cwS 3 hts gX8_isMask_X8_isIn rfl rfl rfl (by decide +kernel) ⟨Nat.le_of_ble_eq_true rfl, Nat.le_of_ble_eq_true rfl⟩) (zpS hK hP hD hS hA hG [] (by decide) rfl) rfl rfl hl.1 rfl (lv_room (Nat.le_of_ble_eq_true rfl)) dX8_isMask_3 ⟨Nat.le_of_ble_eq_true rfl, Nat.le_of_ble_eq_true rfl⟩) ?_
  exact W.zret (v := (rX8_isIn p0 (0 : Int32) (5 : Int32))) hx hb hr (zNar (brX8_isIn _ _ _)) (fun t ht hW => ⟨_, rfl, (by unfold rX8_isMask; rfl), ht⟩) (fun q hq => absurd hq List.not_mem_nil) dX8_isMask_6
theorem brX8_isMask (p0 : Int32) : rX8_isMask p0 = 0 ∨ rX8_isMask p0 = 1 := by
  unfold rX8_isMask
  repeat' split
  all_goals first | exact Or.inl rfl | exact Or.inr rfl | exact brX8_isIn _ _ _

/-! X8_isSecret -/
def rX8_isSecret (p0 : Int32) : Int32 := (rX8_isIn p0 (0 : Int32) (3 : Int32))
set_option maxHeartbeats 280000 in
set_option maxRecDepth 100000 in
theorem c_X8_isSecret (l : Launch) (dC : Nat → ClassId) (dI : Nat → Nat → Nat) (cI cJ : ClassId) (sz : Nat) (p0 : Int32) : Met l yX8_isSecret wsX8_isSecret ({ frames := 1, cells := 0, slots := 0, locals := 22 }) (va_Pc [.int p0] (zI (dC, dI) [(cI, .int), (cJ, .long)] [] sz)) (vp_Si (fun r => r = rX8_isSecret p0)) 0 0 (fun _ => False) := by
  refine Met.ofW (cc := cX8_isSecret) (maxL := 1) (ret := (some .boolean)) (by decide) rfl ?_
  intro p e s m args below meth c s₁ B hml hv
  obtain ⟨rfl, hsz, hP, hK, hD0, hG⟩ := hv
  have hx := B.exec
  have hb := B.bytes
  have hr := B.returns
  have hts := atoms_spec (ws := wsX8_isSecret) B.pre
  have hown : s.vm.findClass RX8 = some m.cls := findClass_of_methodNamed B.named
  have hlocks := B.notSynchronized
  subst hsz
  have hD := hD0.self (sz := s.heap.size)
  generalize hAe : va_A [] s.heap.size = A at hD hG
  have hA : ∀ q : Nat, s.heap.size ≤ q → A q := fun q h => by rw [← hAe]; exact Or.inr h
  have hS : va_S A s.heap s.heap [] := va_S.rf
  have hP : va_P (dC, dI) vwCl [] s.heap := hP
  have hl := lv_entry ([.int p0]) (n := 1) (Nat.le_of_ble_eq_true rfl)
  rw [lg_entry_eq]
  generalize (lg_sl ([.int p0]) ++ List.replicate (1 - (lg_sl ([.int p0])).length) Slot.unset).toArray = ls at hl ⊢
  have hl : lv_has ls 1 [(0, .int p0)] := hl
  refine lv_iload_n hx hb dX8_isSecret_0 rfl (lv_at hl 0 rfl) ?_
  refine lv_iconst (v := 0) hx hb dX8_isSecret_1 (by decide) ?_
  refine lv_iconst (v := 3) hx hb dX8_isSecret_2 (by decide) ?_
  refine zcSi (va_runS (As := [.int p0, .int (0 : Int32), .int (3 : Int32)]) (rest := []) ⟨hx, hb, hml, hown, hts⟩ (c_X8_isIn l dC dI cI cJ s.heap.size p0 (0 : Int32) (3 : Int32) ) (va_cwS 3 hts gX8_isSecret_X8_isIn rfl rfl rfl (by decide +kernel) ⟨Nat.le_of_ble_eq_true rfl, Nat.le_of_ble_eq_true rfl⟩) (zpS hK hP hD hS hA hG [] (by decide) rfl) rfl rfl hl.1 rfl (lv_room (Nat.le_of_ble_eq_true rfl)) dX8_isSecret_3 ⟨Nat.le_of_ble_eq_true rfl, Nat.le_of_ble_eq_true rfl⟩) ?_
  exact W.zret (v := (rX8_isIn p0 (0 : Int32) (3 : Int32))) hx hb hr (zNar (brX8_isIn _ _ _)) (fun t ht hW => ⟨_, rfl, (by unfold rX8_isSecret; rfl), ht⟩) (fun q hq => absurd hq List.not_mem_nil) dX8_isSecret_6
theorem brX8_isSecret (p0 : Int32) : rX8_isSecret p0 = 0 ∨ rX8_isSecret p0 = 1 := by
  unfold rX8_isSecret
  repeat' split
  all_goals first | exact Or.inl rfl | exact Or.inr rfl | exact brX8_isIn _ _ _

/-! X8_isProp -/
def rX8_isProp (p0 : Int32) : Int32 := (rX8_isIn p0 (0 : Int32) (3 : Int32))
set_option maxHeartbeats 280000 in
set_option maxRecDepth 100000 in
theorem c_X8_isProp (l : Launch) (dC : Nat → ClassId) (dI : Nat → Nat → Nat) (cI cJ : ClassId) (sz : Nat) (p0 : Int32) : Met l yX8_isProp wsX8_isProp ({ frames := 1, cells := 0, slots := 0, locals := 22 }) (va_Pc [.int p0] (zI (dC, dI) [(cI, .int), (cJ, .long)] [] sz)) (vp_Si (fun r => r = rX8_isProp p0)) 0 0 (fun _ => False) := by
  refine Met.ofW (cc := cX8_isProp) (maxL := 1) (ret := (some .boolean)) (by decide) rfl ?_
  intro p e s m args below meth c s₁ B hml hv
  obtain ⟨rfl, hsz, hP, hK, hD0, hG⟩ := hv
  have hx := B.exec
  have hb := B.bytes
  have hr := B.returns
  have hts := atoms_spec (ws := wsX8_isProp) B.pre
  have hown : s.vm.findClass RX8 = some m.cls := findClass_of_methodNamed B.named
  have hlocks := B.notSynchronized
  subst hsz
  have hD := hD0.self (sz := s.heap.size)
  generalize hAe : va_A [] s.heap.size = A at hD hG
  have hA : ∀ q : Nat, s.heap.size ≤ q → A q := fun q h => by rw [← hAe]; exact Or.inr h
  have hS : va_S A s.heap s.heap [] := va_S.rf
  have hP : va_P (dC, dI) vwCl [] s.heap := hP
  have hl := lv_entry ([.int p0]) (n := 1) (Nat.le_of_ble_eq_true rfl)
  rw [lg_entry_eq]
  generalize (lg_sl ([.int p0]) ++ List.replicate (1 - (lg_sl ([.int p0])).length) Slot.unset).toArray = ls at hl ⊢
  have hl : lv_has ls 1 [(0, .int p0)] := hl
  refine lv_iload_n hx hb dX8_isProp_0 rfl (lv_at hl 0 rfl) ?_
  refine lv_iconst (v := 0) hx hb dX8_isProp_1 (by decide) ?_
  refine lv_iconst (v := 3) hx hb dX8_isProp_2 (by decide) ?_
  refine zcSi (va_runS (As := [.int p0, .int (0 : Int32), .int (3 : Int32)]) (rest := []) ⟨hx, hb, hml, hown, hts⟩ (c_X8_isIn l dC dI cI cJ s.heap.size p0 (0 : Int32) (3 : Int32) ) (va_cwS 3 hts gX8_isProp_X8_isIn rfl rfl rfl (by decide +kernel) ⟨Nat.le_of_ble_eq_true rfl, Nat.le_of_ble_eq_true rfl⟩) (zpS hK hP hD hS hA hG [] (by decide) rfl) rfl rfl hl.1 rfl (lv_room (Nat.le_of_ble_eq_true rfl)) dX8_isProp_3 ⟨Nat.le_of_ble_eq_true rfl, Nat.le_of_ble_eq_true rfl⟩) ?_
  exact W.zret (v := (rX8_isIn p0 (0 : Int32) (3 : Int32))) hx hb hr (zNar (brX8_isIn _ _ _)) (fun t ht hW => ⟨_, rfl, (by unfold rX8_isProp; rfl), ht⟩) (fun q hq => absurd hq List.not_mem_nil) dX8_isProp_6
theorem brX8_isProp (p0 : Int32) : rX8_isProp p0 = 0 ∨ rX8_isProp p0 = 1 := by
  unfold rX8_isProp
  repeat' split
  all_goals first | exact Or.inl rfl | exact Or.inr rfl | exact brX8_isIn _ _ _

/-! X8_holds -/
def rX8_holds (p0 : Int32) (p1 : Int32) : Int32 := (if ((p0 >>> (p1 &&& 31)) &&& (1 : Int32)) = (1 : Int32) then (1 : Int32) else (0 : Int32))
set_option maxHeartbeats 400000 in
set_option maxRecDepth 100000 in
theorem c_X8_holds (l : Launch) (dC : Nat → ClassId) (dI : Nat → Nat → Nat) (cI cJ : ClassId) (sz : Nat) (p0 : Int32) (p1 : Int32) : Met l yX8_holds wsX8_holds ({ frames := 0, cells := 0, slots := 0, locals := 0 }) (va_Pc [.int p0, .int p1] (zI (dC, dI) [(cI, .int), (cJ, .long)] [] sz)) (vp_Si (fun r => r = rX8_holds p0 p1)) 0 0 (fun _ => False) := by
  refine Met.ofW (cc := cX8_holds) (maxL := 2) (ret := (some .boolean)) (by decide) rfl ?_
  intro p e s m args below meth c s₁ B hml hv
  obtain ⟨rfl, hsz, hP, hK, hD0, hG⟩ := hv
  have hx := B.exec
  have hb := B.bytes
  have hr := B.returns
  have hts := atoms_spec (ws := wsX8_holds) B.pre
  have hown : s.vm.findClass RX8 = some m.cls := findClass_of_methodNamed B.named
  have hlocks := B.notSynchronized
  subst hsz
  have hD := hD0.self (sz := s.heap.size)
  generalize hAe : va_A [] s.heap.size = A at hD hG
  have hA : ∀ q : Nat, s.heap.size ≤ q → A q := fun q h => by rw [← hAe]; exact Or.inr h
  have hS : va_S A s.heap s.heap [] := va_S.rf
  have hP : va_P (dC, dI) vwCl [] s.heap := hP
  have hl := lv_entry ([.int p0, .int p1]) (n := 2) (Nat.le_of_ble_eq_true rfl)
  rw [lg_entry_eq]
  generalize (lg_sl ([.int p0, .int p1]) ++ List.replicate (2 - (lg_sl ([.int p0, .int p1])).length) Slot.unset).toArray = ls at hl ⊢
  have hl : lv_has ls 2 [(0, .int p0), (1, .int p1)] := hl
  refine lv_iload_n hx hb dX8_holds_0 rfl (lv_at hl 0 rfl) ?_
  refine lv_iload_n hx hb dX8_holds_1 rfl (lv_at hl 1 rfl) ?_
  refine lv_ishr hx hb dX8_holds_2 ?_
  refine lv_iconst (v := 1) hx hb dX8_holds_3 (by decide) ?_
  refine lv_iand hx hb dX8_holds_4 ?_
  refine lv_iconst (v := 1) hx hb dX8_holds_5 (by decide) ?_
  refine lv_icmp_ne (tgt := 13) hx hb dX8_holds_6 (by decide) (fun c_1 => ?_) (fun c_1 => ?_)
  · refine lv_iconst (v := 0) hx hb dX8_holds_13 (by decide) ?_
    exact W.zret (v := (0 : Int32)) hx hb hr (zNar (Or.inl rfl)) (fun t ht hW => ⟨_, rfl, (by unfold rX8_holds; rw [if_neg c_1]), ht⟩) (fun q hq => absurd hq List.not_mem_nil) dX8_holds_14
  · refine lv_iconst (v := 1) hx hb dX8_holds_9 (by decide) ?_
    refine lv_goto (tgt := 14) hx hb dX8_holds_10 (by decide) ?_
    exact W.zret (v := (1 : Int32)) hx hb hr (zNar (Or.inr rfl)) (fun t ht hW => ⟨_, rfl, (by unfold rX8_holds; rw [if_pos c_1]), ht⟩) (fun q hq => absurd hq List.not_mem_nil) dX8_holds_14
theorem brX8_holds (p0 : Int32) (p1 : Int32) : rX8_holds p0 p1 = 0 ∨ rX8_holds p0 p1 = 1 := by
  unfold rX8_holds
  repeat' split
  all_goals first | exact Or.inl rfl | exact Or.inr rfl

/-! X8_with -/
def rX8_with (p0 : Int32) (p1 : Int32) (p2 : Int32) : Int32 := (if p2 = 0 then (p0 &&& (((1 : Int32) <<< (p1 &&& 31)) ^^^ (-1 : Int32))) else (p0 ||| ((1 : Int32) <<< (p1 &&& 31))))
set_option maxHeartbeats 500000 in
set_option maxRecDepth 100000 in
theorem c_X8_with (l : Launch) (dC : Nat → ClassId) (dI : Nat → Nat → Nat) (cI cJ : ClassId) (sz : Nat) (p0 : Int32) (p1 : Int32) (p2 : Int32) : Met l yX8_with wsX8_with ({ frames := 0, cells := 0, slots := 0, locals := 0 }) (va_Pc [.int p0, .int p1, .int p2] (zI (dC, dI) [(cI, .int), (cJ, .long)] [] sz)) (vp_Si (fun r => r = rX8_with p0 p1 p2)) 0 0 (fun _ => False) := by
  refine Met.ofW (cc := cX8_with) (maxL := 3) (ret := (some .int)) (by decide) rfl ?_
  intro p e s m args below meth c s₁ B hml hv
  obtain ⟨rfl, hsz, hP, hK, hD0, hG⟩ := hv
  have hx := B.exec
  have hb := B.bytes
  have hr := B.returns
  have hts := atoms_spec (ws := wsX8_with) B.pre
  have hown : s.vm.findClass RX8 = some m.cls := findClass_of_methodNamed B.named
  have hlocks := B.notSynchronized
  subst hsz
  have hD := hD0.self (sz := s.heap.size)
  generalize hAe : va_A [] s.heap.size = A at hD hG
  have hA : ∀ q : Nat, s.heap.size ≤ q → A q := fun q h => by rw [← hAe]; exact Or.inr h
  have hS : va_S A s.heap s.heap [] := va_S.rf
  have hP : va_P (dC, dI) vwCl [] s.heap := hP
  have hl := lv_entry ([.int p0, .int p1, .int p2]) (n := 3) (Nat.le_of_ble_eq_true rfl)
  rw [lg_entry_eq]
  generalize (lg_sl ([.int p0, .int p1, .int p2]) ++ List.replicate (3 - (lg_sl ([.int p0, .int p1, .int p2])).length) Slot.unset).toArray = ls at hl ⊢
  have hl : lv_has ls 3 [(0, .int p0), (1, .int p1), (2, .int p2)] := hl
  refine lv_iload_n hx hb dX8_with_0 rfl (lv_at hl 2 rfl) ?_
  refine lv_if_eq (tgt := 12) hx hb dX8_with_1 (by decide) (fun c_1 => ?_) (fun c_1 => ?_)
  · refine lv_iload_n hx hb dX8_with_12 rfl (lv_at hl 0 rfl) ?_
    refine lv_iconst (v := 1) hx hb dX8_with_13 (by decide) ?_
    refine lv_iload_n hx hb dX8_with_14 rfl (lv_at hl 1 rfl) ?_
    refine lv_ishl hx hb dX8_with_15 ?_
    refine lv_iconst (v := -1) hx hb dX8_with_16 (by decide) ?_
    refine lv_ixor hx hb dX8_with_17 ?_
    refine lv_iand hx hb dX8_with_18 ?_
    exact W.iret (v := (p0 &&& (((1 : Int32) <<< (p1 &&& 31)) ^^^ (-1 : Int32)))) hx hb hr (fun t ht hW => ⟨_, rfl, (by unfold rX8_with; rw [if_pos c_1]), ht⟩) (fun q hq => absurd hq List.not_mem_nil) dX8_with_19
  · refine lv_iload_n hx hb dX8_with_4 rfl (lv_at hl 0 rfl) ?_
    refine lv_iconst (v := 1) hx hb dX8_with_5 (by decide) ?_
    refine lv_iload_n hx hb dX8_with_6 rfl (lv_at hl 1 rfl) ?_
    refine lv_ishl hx hb dX8_with_7 ?_
    refine lv_ior hx hb dX8_with_8 ?_
    refine lv_goto (tgt := 19) hx hb dX8_with_9 (by decide) ?_
    exact W.iret (v := (p0 ||| ((1 : Int32) <<< (p1 &&& 31)))) hx hb hr (fun t ht hW => ⟨_, rfl, (by unfold rX8_with; rw [if_neg c_1]), ht⟩) (fun q hq => absurd hq List.not_mem_nil) dX8_with_19

/-! X8_thrown -/
def rX8_thrown (nSt : Int32) (nIl : Int32) (nBa : Int32) (nGa : Int32) (nNs : Int32) (nLi : Int32) (nMi : Int32) (nNx : Int32) (nMv : Int32) (nOn : Int32) (nLa : Int32) (nCl : Int32) (nLn : Int32) (nTh : Int32) : Int32 := nTh
set_option maxRecDepth 20000 in
theorem iX8_thrown_X8 : ∀ w ∈ u_ws RX8 TX8 29, w ∈ wsX8_thrown := by decide +kernel
set_option maxRecDepth 20000 in
theorem kX8_thrown_1 : Cond.fieldLink RX8 59 "MaskHallModel" "thrown" "I" ∈ wsX8_thrown := by decide +kernel
set_option maxHeartbeats 240000 in
set_option maxRecDepth 100000 in
theorem c_X8_thrown (l : Launch) (dC : Nat → ClassId) (dI : Nat → Nat → Nat) (cI cJ : ClassId) (w0 aFk aFh aKi aOn aOt aWh aLe aWi aPr aPl aPt aKn aHa aKt aHt : Nat) (sz : Nat) (nSt : Int32) (nIl : Int32) (nBa : Int32) (nGa : Int32) (nNs : Int32) (nLi : Int32) (nMi : Int32) (nNx : Int32) (nMv : Int32) (nOn : Int32) (nLa : Int32) (nCl : Int32) (nLn : Int32) (nTh : Int32) : Met l yX8_thrown wsX8_thrown ({ frames := 0, cells := 0, slots := 0, locals := 0 }) (va_Pc [.ref w0] (zI (dC, dI) [(cI, .int), (cJ, .long)] [(w0, .inr (8, [.ref aFk, .ref aFh, .int nSt, .ref aKi, .ref aOn, .ref aOt, .ref aWh, .int nIl, .int nBa, .int nGa, .ref aLe, .ref aWi, .ref aPr, .ref aPl, .ref aPt, .int nNs, .int nLi, .int nMi, .int nNx, .int nMv, .int nOn, .ref aKn, .ref aHa, .int nLa, .int nCl, .int nLn, .ref aKt, .ref aHt, .int nTh]))] sz)) (vp_Si (fun r => r = rX8_thrown nSt nIl nBa nGa nNs nLi nMi nNx nMv nOn nLa nCl nLn nTh)) 0 0 (fun _ => False) := by
  refine Met.ofW (cc := cX8_thrown) (maxL := 1) (ret := (some .int)) (by decide) rfl ?_
  intro p e s m args below meth c s₁ B hml hv
  obtain ⟨rfl, hsz, hP, hK, hD0, hG⟩ := hv
  have hx := B.exec
  have hb := B.bytes
  have hr := B.returns
  have hts := atoms_spec (ws := wsX8_thrown) B.pre
  have hown : s.vm.findClass RX8 = some m.cls := findClass_of_methodNamed B.named
  have hlocks := B.notSynchronized
  subst hsz
  have hD := hD0.self (sz := s.heap.size)
  generalize hAe : va_A [(w0, .inr (8, [.ref aFk, .ref aFh, .int nSt, .ref aKi, .ref aOn, .ref aOt, .ref aWh, .int nIl, .int nBa, .int nGa, .ref aLe, .ref aWi, .ref aPr, .ref aPl, .ref aPt, .int nNs, .int nLi, .int nMi, .int nNx, .int nMv, .int nOn, .ref aKn, .ref aHa, .int nLa, .int nCl, .int nLn, .ref aKt, .ref aHt, .int nTh]))] s.heap.size = A at hD hG
  have hA : ∀ q : Nat, s.heap.size ≤ q → A q := fun q h => by rw [← hAe]; exact Or.inr h
  have hS : va_S A s.heap s.heap [] := va_S.rf
  have hP : va_P (dC, dI) vwCl [(w0, .inr (8, [.ref aFk, .ref aFh, .int nSt, .ref aKi, .ref aOn, .ref aOt, .ref aWh, .int nIl, .int nBa, .int nGa, .ref aLe, .ref aWi, .ref aPr, .ref aPl, .ref aPt, .int nNs, .int nLi, .int nMi, .int nNx, .int nMv, .int nOn, .ref aKn, .ref aHa, .int nLa, .int nCl, .int nLn, .ref aKt, .ref aHt, .int nTh]))] s.heap := hP
  have hl := lv_entry ([.ref w0]) (n := 1) (Nat.le_of_ble_eq_true rfl)
  rw [lg_entry_eq]
  generalize (lg_sl ([.ref w0]) ++ List.replicate (1 - (lg_sl ([.ref w0])).length) Slot.unset).toArray = ls at hl ⊢
  have hl : lv_has ls 1 [(0, .ref w0)] := hl
  refine lv_aload_n hx hb dX8_thrown_0 rfl (lv_at hl 0 rfl) ?_
  refine va_get (D := (dC, dI)) (ci := 8) (v := .int nTh) (C := RX8) (T := TX8) (N := 29) hx hb hts iX8_thrown_X8 hown hK hP 0 rfl rfl 28 (by decide) (hts _ kX8_thrown_1) (fun _ h9 => h9) rfl dX8_thrown_1 ?_
  exact W.iret (v := nTh) hx hb hr (fun t ht hW => ⟨_, rfl, (by unfold rX8_thrown; rfl), ht⟩) (fun q hq => absurd hq List.not_mem_nil) dX8_thrown_4

/-! X8_fails -/
def rX8_fails (nSt : Int32) (nIl : Int32) (nBa : Int32) (nGa : Int32) (nNs : Int32) (nLi : Int32) (nMi : Int32) (nNx : Int32) (nMv : Int32) (nOn : Int32) (nLa : Int32) (nCl : Int32) (nLn : Int32) (nTh : Int32) (p1 : Int32) : Int32 := (if p1 ≤ 0 then (0 : Int32) else (1 : Int32))
def oX8_fails_nTh (nSt : Int32) (nIl : Int32) (nBa : Int32) (nGa : Int32) (nNs : Int32) (nLi : Int32) (nMi : Int32) (nNx : Int32) (nMv : Int32) (nOn : Int32) (nLa : Int32) (nCl : Int32) (nLn : Int32) (nTh : Int32) (p1 : Int32) : Int32 := p1
set_option maxRecDepth 20000 in
theorem iX8_fails_X8 : ∀ w ∈ u_ws RX8 TX8 29, w ∈ wsX8_fails := by decide +kernel
set_option maxRecDepth 20000 in
theorem kX8_fails_1 : Cond.fieldLink RX8 59 "MaskHallModel" "thrown" "I" ∈ wsX8_fails := by decide +kernel
set_option maxHeartbeats 360000 in
set_option maxRecDepth 100000 in
theorem c_X8_fails (l : Launch) (dC : Nat → ClassId) (dI : Nat → Nat → Nat) (cI cJ : ClassId) (w0 aFk aFh aKi aOn aOt aWh aLe aWi aPr aPl aPt aKn aHa aKt aHt : Nat) (sz : Nat) (nSt : Int32) (nIl : Int32) (nBa : Int32) (nGa : Int32) (nNs : Int32) (nLi : Int32) (nMi : Int32) (nNx : Int32) (nMv : Int32) (nOn : Int32) (nLa : Int32) (nCl : Int32) (nLn : Int32) (nTh : Int32) (p1 : Int32) : Met l yX8_fails wsX8_fails ({ frames := 0, cells := 0, slots := 0, locals := 0 }) (va_Pc [.ref w0, .int p1] (zI (dC, dI) [(cI, .int), (cJ, .long)] [(w0, .inr (8, [.ref aFk, .ref aFh, .int nSt, .ref aKi, .ref aOn, .ref aOt, .ref aWh, .int nIl, .int nBa, .int nGa, .ref aLe, .ref aWi, .ref aPr, .ref aPl, .ref aPt, .int nNs, .int nLi, .int nMi, .int nNx, .int nMv, .int nOn, .ref aKn, .ref aHa, .int nLa, .int nCl, .int nLn, .ref aKt, .ref aHt, .int nTh]))] sz)) (va_Qi (fun (r : Int32) (u : (Int32)) => r = rX8_fails nSt nIl nBa nGa nNs nLi nMi nNx nMv nOn nLa nCl nLn nTh p1 ∧ u = oX8_fails_nTh nSt nIl nBa nGa nNs nLi nMi nNx nMv nOn nLa nCl nLn nTh p1) (fun u => zO (dC, dI) [(cI, .int), (cJ, .long)] [(w0, .inr (8, [.ref aFk, .ref aFh, .int nSt, .ref aKi, .ref aOn, .ref aOt, .ref aWh, .int nIl, .int nBa, .int nGa, .ref aLe, .ref aWi, .ref aPr, .ref aPl, .ref aPt, .int nNs, .int nLi, .int nMi, .int nNx, .int nMv, .int nOn, .ref aKn, .ref aHa, .int nLa, .int nCl, .int nLn, .ref aKt, .ref aHt, .int u]))] (va_A [(w0, .inr (8, [.ref aFk, .ref aFh, .int nSt, .ref aKi, .ref aOn, .ref aOt, .ref aWh, .int nIl, .int nBa, .int nGa, .ref aLe, .ref aWi, .ref aPr, .ref aPl, .ref aPt, .int nNs, .int nLi, .int nMi, .int nNx, .int nMv, .int nOn, .ref aKn, .ref aHa, .int nLa, .int nCl, .int nLn, .ref aKt, .ref aHt, .int nTh]))] sz)) (va_A [(w0, .inr (8, [.ref aFk, .ref aFh, .int nSt, .ref aKi, .ref aOn, .ref aOt, .ref aWh, .int nIl, .int nBa, .int nGa, .ref aLe, .ref aWi, .ref aPr, .ref aPl, .ref aPt, .int nNs, .int nLi, .int nMi, .int nNx, .int nMv, .int nOn, .ref aKn, .ref aHa, .int nLa, .int nCl, .int nLn, .ref aKt, .ref aHt, .int nTh]))] sz)) 0 0 (va_A [(w0, .inr (8, [.ref aFk, .ref aFh, .int nSt, .ref aKi, .ref aOn, .ref aOt, .ref aWh, .int nIl, .int nBa, .int nGa, .ref aLe, .ref aWi, .ref aPr, .ref aPl, .ref aPt, .int nNs, .int nLi, .int nMi, .int nNx, .int nMv, .int nOn, .ref aKn, .ref aHa, .int nLa, .int nCl, .int nLn, .ref aKt, .ref aHt, .int nTh]))] sz) := by
  refine Met.ofW (cc := cX8_fails) (maxL := 2) (ret := (some .boolean)) (by decide) rfl ?_
  intro p e s m args below meth c s₁ B hml hv
  obtain ⟨rfl, hsz, hP, hK, hD0, hG⟩ := hv
  have hx := B.exec
  have hb := B.bytes
  have hr := B.returns
  have hts := atoms_spec (ws := wsX8_fails) B.pre
  have hown : s.vm.findClass RX8 = some m.cls := findClass_of_methodNamed B.named
  have hlocks := B.notSynchronized
  subst hsz
  have hD := hD0.self (sz := s.heap.size)
  generalize hAe : va_A [(w0, .inr (8, [.ref aFk, .ref aFh, .int nSt, .ref aKi, .ref aOn, .ref aOt, .ref aWh, .int nIl, .int nBa, .int nGa, .ref aLe, .ref aWi, .ref aPr, .ref aPl, .ref aPt, .int nNs, .int nLi, .int nMi, .int nNx, .int nMv, .int nOn, .ref aKn, .ref aHa, .int nLa, .int nCl, .int nLn, .ref aKt, .ref aHt, .int nTh]))] s.heap.size = A at hD hG ⊢
  have hA : ∀ q : Nat, s.heap.size ≤ q → A q := fun q h => by rw [← hAe]; exact Or.inr h
  have hS : va_S A s.heap s.heap [] := va_S.rf
  have hP : va_P (dC, dI) vwCl [(w0, .inr (8, [.ref aFk, .ref aFh, .int nSt, .ref aKi, .ref aOn, .ref aOt, .ref aWh, .int nIl, .int nBa, .int nGa, .ref aLe, .ref aWi, .ref aPr, .ref aPl, .ref aPt, .int nNs, .int nLi, .int nMi, .int nNx, .int nMv, .int nOn, .ref aKn, .ref aHa, .int nLa, .int nCl, .int nLn, .ref aKt, .ref aHt, .int nTh]))] s.heap := hP
  have hl := lv_entry ([.ref w0, .int p1]) (n := 2) (Nat.le_of_ble_eq_true rfl)
  rw [lg_entry_eq]
  generalize (lg_sl ([.ref w0, .int p1]) ++ List.replicate (2 - (lg_sl ([.ref w0, .int p1])).length) Slot.unset).toArray = ls at hl ⊢
  have hl : lv_has ls 2 [(0, .ref w0), (1, .int p1)] := hl
  refine lv_aload_n hx hb dX8_fails_0 rfl (lv_at hl 0 rfl) ?_
  refine lv_iload_n hx hb dX8_fails_1 rfl (lv_at hl 1 rfl) ?_
  refine va_put (D := (dC, dI)) (ci := 8) (v := .int p1) (ty := .int) (C := RX8) (T := TX8) (N := 29) hx hb hts iX8_fails_X8 tyX8 tyX8_ok nmX8 hown hK hP hD hS 0 rfl rfl 28 (by decide) (hts _ kX8_fails_1) (fun _ h9 => h9) rfl (by decide +kernel) rfl rfl (Nat.le_of_ble_eq_true rfl) dX8_fails_2 (fun H locs hP hD hS => ?_)
  have hP : va_P (dC, dI) vwCl [(w0, .inr (8, [.ref aFk, .ref aFh, .int nSt, .ref aKi, .ref aOn, .ref aOt, .ref aWh, .int nIl, .int nBa, .int nGa, .ref aLe, .ref aWi, .ref aPr, .ref aPl, .ref aPt, .int nNs, .int nLi, .int nMi, .int nNx, .int nMv, .int nOn, .ref aKn, .ref aHa, .int nLa, .int nCl, .int nLn, .ref aKt, .ref aHt, .int p1]))] H := hP
  have hD : va_D A [(w0, .inr (8, [.ref aFk, .ref aFh, .int nSt, .ref aKi, .ref aOn, .ref aOt, .ref aWh, .int nIl, .int nBa, .int nGa, .ref aLe, .ref aWi, .ref aPr, .ref aPl, .ref aPt, .int nNs, .int nLi, .int nMi, .int nNx, .int nMv, .int nOn, .ref aKn, .ref aHa, .int nLa, .int nCl, .int nLn, .ref aKt, .ref aHt, .int p1]))] := hD
  refine lv_iload_n hx hb dX8_fails_5 rfl (lv_at hl 1 rfl) ?_
  refine lv_if_le (tgt := 13) hx hb dX8_fails_6 (by decide) (fun c_1 => ?_) (fun c_1 => ?_)
  · refine lv_iconst (v := 0) hx hb dX8_fails_13 (by decide) ?_
    exact W.zret (v := (0 : Int32)) hx hb hr (zNar (Or.inl rfl)) (fun t ht hW => ⟨⟨(0 : Int32), (p1), rfl, ⟨(by unfold rX8_fails; rw [if_pos c_1]), (by unfold oX8_fails_nTh; rfl)⟩, (by (try dsimp only); rw [ht]; exact hP.sub [0] rfl), va_K.moved hW.alike hK, (by (try dsimp only); exact hD.sub [0] (by decide) rfl)⟩, hS.F ht⟩) hS.2.2 dX8_fails_14
  · refine lv_iconst (v := 1) hx hb dX8_fails_9 (by decide) ?_
    refine lv_goto (tgt := 14) hx hb dX8_fails_10 (by decide) ?_
    exact W.zret (v := (1 : Int32)) hx hb hr (zNar (Or.inr rfl)) (fun t ht hW => ⟨⟨(1 : Int32), (p1), rfl, ⟨(by unfold rX8_fails; rw [if_neg c_1]), (by unfold oX8_fails_nTh; rfl)⟩, (by (try dsimp only); rw [ht]; exact hP.sub [0] rfl), va_K.moved hW.alike hK, (by (try dsimp only); exact hD.sub [0] (by decide) rfl)⟩, hS.F ht⟩) hS.2.2 dX8_fails_14
theorem brX8_fails (nSt : Int32) (nIl : Int32) (nBa : Int32) (nGa : Int32) (nNs : Int32) (nLi : Int32) (nMi : Int32) (nNx : Int32) (nMv : Int32) (nOn : Int32) (nLa : Int32) (nCl : Int32) (nLn : Int32) (nTh : Int32) (p1 : Int32) : rX8_fails nSt nIl nBa nGa nNs nLi nMi nNx nMv nOn nLa nCl nLn nTh p1 = 0 ∨ rX8_fails nSt nIl nBa nGa nNs nLi nMi nNx nMv nOn nLa nCl nLn nTh p1 = 1 := by
  unfold rX8_fails
  repeat' split
  all_goals first | exact Or.inl rfl | exact Or.inr rfl

/-! X8_isOn -/
def rX8_isOn (nSt : Int32) (nIl : Int32) (nBa : Int32) (nGa : Int32) (nNs : Int32) (nLi : Int32) (nMi : Int32) (nNx : Int32) (nMv : Int32) (nOn : Int32) (nLa : Int32) (nCl : Int32) (nLn : Int32) (nTh : Int32) (p1 : Int32) : Int32 := (if nNs = (1 : Int32) then (if (rX8_holds nOn p1) = 0 then (0 : Int32) else (1 : Int32)) else (0 : Int32))
set_option maxRecDepth 20000 in
theorem iX8_isOn_X8 : ∀ w ∈ u_ws RX8 TX8 29, w ∈ wsX8_isOn := by decide +kernel
set_option maxRecDepth 20000 in
theorem kX8_isOn_1 : Cond.fieldLink RX8 84 "MaskHallModel" "state" "I" ∈ wsX8_isOn := by decide +kernel
set_option maxRecDepth 20000 in
theorem kX8_isOn_2 : Cond.fieldLink RX8 96 "MaskHallModel" "on" "I" ∈ wsX8_isOn := by decide +kernel
set_option maxHeartbeats 460000 in
set_option maxRecDepth 100000 in
theorem c_X8_isOn (l : Launch) (dC : Nat → ClassId) (dI : Nat → Nat → Nat) (cI cJ : ClassId) (w0 aFk aFh aKi aOn aOt aWh aLe aWi aPr aPl aPt aKn aHa aKt aHt : Nat) (sz : Nat) (nSt : Int32) (nIl : Int32) (nBa : Int32) (nGa : Int32) (nNs : Int32) (nLi : Int32) (nMi : Int32) (nNx : Int32) (nMv : Int32) (nOn : Int32) (nLa : Int32) (nCl : Int32) (nLn : Int32) (nTh : Int32) (p1 : Int32) : Met l yX8_isOn wsX8_isOn ({ frames := 1, cells := 0, slots := 0, locals := 21 }) (va_Pc [.ref w0, .int p1] (zI (dC, dI) [(cI, .int), (cJ, .long)] [(w0, .inr (8, [.ref aFk, .ref aFh, .int nSt, .ref aKi, .ref aOn, .ref aOt, .ref aWh, .int nIl, .int nBa, .int nGa, .ref aLe, .ref aWi, .ref aPr, .ref aPl, .ref aPt, .int nNs, .int nLi, .int nMi, .int nNx, .int nMv, .int nOn, .ref aKn, .ref aHa, .int nLa, .int nCl, .int nLn, .ref aKt, .ref aHt, .int nTh]))] sz)) (vp_Si (fun r => r = rX8_isOn nSt nIl nBa nGa nNs nLi nMi nNx nMv nOn nLa nCl nLn nTh p1)) 0 0 (fun _ => False) := by
  refine Met.ofW (cc := cX8_isOn) (maxL := 2) (ret := (some .boolean)) (by decide) rfl ?_
  intro p e s m args below meth c s₁ B hml hv
  obtain ⟨rfl, hsz, hP, hK, hD0, hG⟩ := hv
  have hx := B.exec
  have hb := B.bytes
  have hr := B.returns
  have hts := atoms_spec (ws := wsX8_isOn) B.pre
  have hown : s.vm.findClass RX8 = some m.cls := findClass_of_methodNamed B.named
  have hlocks := B.notSynchronized
  subst hsz
  have hD := hD0.self (sz := s.heap.size)
  generalize hAe : va_A [(w0, .inr (8, [.ref aFk, .ref aFh, .int nSt, .ref aKi, .ref aOn, .ref aOt, .ref aWh, .int nIl, .int nBa, .int nGa, .ref aLe, .ref aWi, .ref aPr, .ref aPl, .ref aPt, .int nNs, .int nLi, .int nMi, .int nNx, .int nMv, .int nOn, .ref aKn, .ref aHa, .int nLa, .int nCl, .int nLn, .ref aKt, .ref aHt, .int nTh]))] s.heap.size = A at hD hG
  have hA : ∀ q : Nat, s.heap.size ≤ q → A q := fun q h => by rw [← hAe]; exact Or.inr h
  have hS : va_S A s.heap s.heap [] := va_S.rf
  have hP : va_P (dC, dI) vwCl [(w0, .inr (8, [.ref aFk, .ref aFh, .int nSt, .ref aKi, .ref aOn, .ref aOt, .ref aWh, .int nIl, .int nBa, .int nGa, .ref aLe, .ref aWi, .ref aPr, .ref aPl, .ref aPt, .int nNs, .int nLi, .int nMi, .int nNx, .int nMv, .int nOn, .ref aKn, .ref aHa, .int nLa, .int nCl, .int nLn, .ref aKt, .ref aHt, .int nTh]))] s.heap := hP
  have hl := lv_entry ([.ref w0, .int p1]) (n := 2) (Nat.le_of_ble_eq_true rfl)
  rw [lg_entry_eq]
  generalize (lg_sl ([.ref w0, .int p1]) ++ List.replicate (2 - (lg_sl ([.ref w0, .int p1])).length) Slot.unset).toArray = ls at hl ⊢
  have hl : lv_has ls 2 [(0, .ref w0), (1, .int p1)] := hl
  refine lv_aload_n hx hb dX8_isOn_0 rfl (lv_at hl 0 rfl) ?_
  refine va_get (D := (dC, dI)) (ci := 8) (v := .int nNs) (C := RX8) (T := TX8) (N := 29) hx hb hts iX8_isOn_X8 hown hK hP 0 rfl rfl 15 (by decide) (hts _ kX8_isOn_1) (fun _ h9 => h9) rfl dX8_isOn_1 ?_
  refine lv_iconst (v := 1) hx hb dX8_isOn_4 (by decide) ?_
  refine lv_icmp_ne (tgt := 23) hx hb dX8_isOn_5 (by decide) (fun c_1 => ?_) (fun c_1 => ?_)
  · refine lv_iconst (v := 0) hx hb dX8_isOn_23 (by decide) ?_
    exact W.zret (v := (0 : Int32)) hx hb hr (zNar (Or.inl rfl)) (fun t ht hW => ⟨_, rfl, (by unfold rX8_isOn; rw [if_neg c_1]), ht⟩) (fun q hq => absurd hq List.not_mem_nil) dX8_isOn_24
  · refine lv_aload_n hx hb dX8_isOn_8 rfl (lv_at hl 0 rfl) ?_
    refine va_get (D := (dC, dI)) (ci := 8) (v := .int nOn) (C := RX8) (T := TX8) (N := 29) hx hb hts iX8_isOn_X8 hown hK hP 0 rfl rfl 20 (by decide) (hts _ kX8_isOn_2) (fun _ h9 => h9) rfl dX8_isOn_9 ?_
    refine lv_iload_n hx hb dX8_isOn_12 rfl (lv_at hl 1 rfl) ?_
    refine zcSi (va_runS (As := [.int nOn, .int p1]) (rest := []) ⟨hx, hb, hml, hown, hts⟩ (c_X8_holds l dC dI cI cJ s.heap.size nOn p1 ) (va_cwS 2 hts gX8_isOn_X8_holds rfl rfl rfl (by decide +kernel) ⟨Nat.le_of_ble_eq_true rfl, Nat.le_of_ble_eq_true rfl⟩) (zpS hK hP hD hS hA hG [] (by decide) rfl) rfl rfl hl.1 rfl (lv_room (Nat.le_of_ble_eq_true rfl)) dX8_isOn_13 ⟨Nat.le_of_ble_eq_true rfl, Nat.le_of_ble_eq_true rfl⟩) ?_
    refine lv_if_eq (tgt := 23) hx hb dX8_isOn_16 (by decide) (fun c_2 => ?_) (fun c_2 => ?_)
    · refine lv_iconst (v := 0) hx hb dX8_isOn_23 (by decide) ?_
      exact W.zret (v := (0 : Int32)) hx hb hr (zNar (Or.inl rfl)) (fun t ht hW => ⟨_, rfl, (by unfold rX8_isOn; rw [if_pos c_1, if_pos c_2]), ht⟩) (fun q hq => absurd hq List.not_mem_nil) dX8_isOn_24
    · refine lv_iconst (v := 1) hx hb dX8_isOn_19 (by decide) ?_
      refine lv_goto (tgt := 24) hx hb dX8_isOn_20 (by decide) ?_
      exact W.zret (v := (1 : Int32)) hx hb hr (zNar (Or.inr rfl)) (fun t ht hW => ⟨_, rfl, (by unfold rX8_isOn; rw [if_pos c_1, if_neg c_2]), ht⟩) (fun q hq => absurd hq List.not_mem_nil) dX8_isOn_24
theorem brX8_isOn (nSt : Int32) (nIl : Int32) (nBa : Int32) (nGa : Int32) (nNs : Int32) (nLi : Int32) (nMi : Int32) (nNx : Int32) (nMv : Int32) (nOn : Int32) (nLa : Int32) (nCl : Int32) (nLn : Int32) (nTh : Int32) (p1 : Int32) : rX8_isOn nSt nIl nBa nGa nNs nLi nMi nNx nMv nOn nLa nCl nLn nTh p1 = 0 ∨ rX8_isOn nSt nIl nBa nGa nNs nLi nMi nNx nMv nOn nLa nCl nLn nTh p1 = 1 := by
  unfold rX8_isOn
  repeat' split
  all_goals first | exact Or.inl rfl | exact Or.inr rfl | exact brX8_holds _ _

/-! X8_off -/
def rX8_off (nSt : Int32) (nIl : Int32) (nBa : Int32) (nGa : Int32) (nNs : Int32) (nLi : Int32) (nMi : Int32) (nNx : Int32) (nMv : Int32) (nOn : Int32) (nLa : Int32) (nCl : Int32) (nLn : Int32) (nTh : Int32) (p1 : Int32) : Int32 := (if (rX8_holds nOn p1) = 0 then (1 : Int32) else (0 : Int32))
set_option maxRecDepth 20000 in
theorem iX8_off_X8 : ∀ w ∈ u_ws RX8 TX8 29, w ∈ wsX8_off := by decide +kernel
set_option maxRecDepth 20000 in
theorem kX8_off_1 : Cond.fieldLink RX8 96 "MaskHallModel" "on" "I" ∈ wsX8_off := by decide +kernel
set_option maxHeartbeats 360000 in
set_option maxRecDepth 100000 in
theorem c_X8_off (l : Launch) (dC : Nat → ClassId) (dI : Nat → Nat → Nat) (cI cJ : ClassId) (w0 aFk aFh aKi aOn aOt aWh aLe aWi aPr aPl aPt aKn aHa aKt aHt : Nat) (sz : Nat) (nSt : Int32) (nIl : Int32) (nBa : Int32) (nGa : Int32) (nNs : Int32) (nLi : Int32) (nMi : Int32) (nNx : Int32) (nMv : Int32) (nOn : Int32) (nLa : Int32) (nCl : Int32) (nLn : Int32) (nTh : Int32) (p1 : Int32) : Met l yX8_off wsX8_off ({ frames := 1, cells := 0, slots := 0, locals := 21 }) (va_Pc [.ref w0, .int p1] (zI (dC, dI) [(cI, .int), (cJ, .long)] [(w0, .inr (8, [.ref aFk, .ref aFh, .int nSt, .ref aKi, .ref aOn, .ref aOt, .ref aWh, .int nIl, .int nBa, .int nGa, .ref aLe, .ref aWi, .ref aPr, .ref aPl, .ref aPt, .int nNs, .int nLi, .int nMi, .int nNx, .int nMv, .int nOn, .ref aKn, .ref aHa, .int nLa, .int nCl, .int nLn, .ref aKt, .ref aHt, .int nTh]))] sz)) (vp_Si (fun r => r = rX8_off nSt nIl nBa nGa nNs nLi nMi nNx nMv nOn nLa nCl nLn nTh p1)) 0 0 (fun _ => False) := by
  refine Met.ofW (cc := cX8_off) (maxL := 2) (ret := (some .int)) (by decide) rfl ?_
  intro p e s m args below meth c s₁ B hml hv
  obtain ⟨rfl, hsz, hP, hK, hD0, hG⟩ := hv
  have hx := B.exec
  have hb := B.bytes
  have hr := B.returns
  have hts := atoms_spec (ws := wsX8_off) B.pre
  have hown : s.vm.findClass RX8 = some m.cls := findClass_of_methodNamed B.named
  have hlocks := B.notSynchronized
  subst hsz
  have hD := hD0.self (sz := s.heap.size)
  generalize hAe : va_A [(w0, .inr (8, [.ref aFk, .ref aFh, .int nSt, .ref aKi, .ref aOn, .ref aOt, .ref aWh, .int nIl, .int nBa, .int nGa, .ref aLe, .ref aWi, .ref aPr, .ref aPl, .ref aPt, .int nNs, .int nLi, .int nMi, .int nNx, .int nMv, .int nOn, .ref aKn, .ref aHa, .int nLa, .int nCl, .int nLn, .ref aKt, .ref aHt, .int nTh]))] s.heap.size = A at hD hG
  have hA : ∀ q : Nat, s.heap.size ≤ q → A q := fun q h => by rw [← hAe]; exact Or.inr h
  have hS : va_S A s.heap s.heap [] := va_S.rf
  have hP : va_P (dC, dI) vwCl [(w0, .inr (8, [.ref aFk, .ref aFh, .int nSt, .ref aKi, .ref aOn, .ref aOt, .ref aWh, .int nIl, .int nBa, .int nGa, .ref aLe, .ref aWi, .ref aPr, .ref aPl, .ref aPt, .int nNs, .int nLi, .int nMi, .int nNx, .int nMv, .int nOn, .ref aKn, .ref aHa, .int nLa, .int nCl, .int nLn, .ref aKt, .ref aHt, .int nTh]))] s.heap := hP
  have hl := lv_entry ([.ref w0, .int p1]) (n := 2) (Nat.le_of_ble_eq_true rfl)
  rw [lg_entry_eq]
  generalize (lg_sl ([.ref w0, .int p1]) ++ List.replicate (2 - (lg_sl ([.ref w0, .int p1])).length) Slot.unset).toArray = ls at hl ⊢
  have hl : lv_has ls 2 [(0, .ref w0), (1, .int p1)] := hl
  refine lv_aload_n hx hb dX8_off_0 rfl (lv_at hl 0 rfl) ?_
  refine va_get (D := (dC, dI)) (ci := 8) (v := .int nOn) (C := RX8) (T := TX8) (N := 29) hx hb hts iX8_off_X8 hown hK hP 0 rfl rfl 20 (by decide) (hts _ kX8_off_1) (fun _ h9 => h9) rfl dX8_off_1 ?_
  refine lv_iload_n hx hb dX8_off_4 rfl (lv_at hl 1 rfl) ?_
  refine zcSi (va_runS (As := [.int nOn, .int p1]) (rest := []) ⟨hx, hb, hml, hown, hts⟩ (c_X8_holds l dC dI cI cJ s.heap.size nOn p1 ) (va_cwS 2 hts gX8_off_X8_holds rfl rfl rfl (by decide +kernel) ⟨Nat.le_of_ble_eq_true rfl, Nat.le_of_ble_eq_true rfl⟩) (zpS hK hP hD hS hA hG [] (by decide) rfl) rfl rfl hl.1 rfl (lv_room (Nat.le_of_ble_eq_true rfl)) dX8_off_5 ⟨Nat.le_of_ble_eq_true rfl, Nat.le_of_ble_eq_true rfl⟩) ?_
  refine lv_if_eq (tgt := 15) hx hb dX8_off_8 (by decide) (fun c_1 => ?_) (fun c_1 => ?_)
  · refine lv_iconst (v := 1) hx hb dX8_off_15 (by decide) ?_
    exact W.iret (v := (1 : Int32)) hx hb hr (fun t ht hW => ⟨_, rfl, (by unfold rX8_off; rw [if_pos c_1]), ht⟩) (fun q hq => absurd hq List.not_mem_nil) dX8_off_16
  · refine lv_iconst (v := 0) hx hb dX8_off_11 (by decide) ?_
    refine lv_goto (tgt := 16) hx hb dX8_off_12 (by decide) ?_
    exact W.iret (v := (0 : Int32)) hx hb hr (fun t ht hW => ⟨_, rfl, (by unfold rX8_off; rw [if_neg c_1]), ht⟩) (fun q hq => absurd hq List.not_mem_nil) dX8_off_16

/-! X8_isNext -/
def rX8_isNext (nSt : Int32) (nIl : Int32) (nBa : Int32) (nGa : Int32) (nNs : Int32) (nLi : Int32) (nMi : Int32) (nNx : Int32) (nMv : Int32) (nOn : Int32) (nLa : Int32) (nCl : Int32) (nLn : Int32) (nTh : Int32) (mKi : Nat → Int32) (mOn : Nat → Int32) (p1 : Int32) (p2 : Int32) : Int32 := (if (mKi (nNx).toNatClampNeg) = p1 then (if (mOn (nNx).toNatClampNeg) = p2 then (1 : Int32) else (0 : Int32)) else (0 : Int32))
set_option maxRecDepth 20000 in
theorem iX8_isNext_X8 : ∀ w ∈ u_ws RX8 TX8 29, w ∈ wsX8_isNext := by decide +kernel
set_option maxRecDepth 20000 in
theorem kX8_isNext_1 : Cond.fieldLink RX8 16 "MaskHallModel" "kind" "[I" ∈ wsX8_isNext := by decide +kernel
set_option maxRecDepth 20000 in
theorem kX8_isNext_2 : Cond.fieldLink RX8 43 "MaskHallModel" "next" "I" ∈ wsX8_isNext := by decide +kernel
set_option maxRecDepth 20000 in
theorem kX8_isNext_3 : Cond.fieldLink RX8 19 "MaskHallModel" "one" "[I" ∈ wsX8_isNext := by decide +kernel
set_option maxHeartbeats 560000 in
set_option maxRecDepth 100000 in
theorem c_X8_isNext (l : Launch) (dC : Nat → ClassId) (dI : Nat → Nat → Nat) (cI cJ : ClassId) (w0 aKi aOn aFk aFh aOt aWh aLe aWi aPr aPl aPt aKn aHa aKt aHt : Nat) (sz : Nat) (nSt : Int32) (nIl : Int32) (nBa : Int32) (nGa : Int32) (nNs : Int32) (nLi : Int32) (nMi : Int32) (nNx : Int32) (nMv : Int32) (nOn : Int32) (nLa : Int32) (nCl : Int32) (nLn : Int32) (nTh : Int32) (mKi : Nat → Int32) (mOn : Nat → Int32) (p1 : Int32) (p2 : Int32) (hnx : vp_in nNx 12) : Met l yX8_isNext wsX8_isNext ({ frames := 0, cells := 0, slots := 0, locals := 0 }) (va_Pc [.ref w0, .int p1, .int p2] (zI (dC, dI) [(cI, .int), (cJ, .long)] [(w0, .inr (8, [.ref aFk, .ref aFh, .int nSt, .ref aKi, .ref aOn, .ref aOt, .ref aWh, .int nIl, .int nBa, .int nGa, .ref aLe, .ref aWi, .ref aPr, .ref aPl, .ref aPt, .int nNs, .int nLi, .int nMi, .int nNx, .int nMv, .int nOn, .ref aKn, .ref aHa, .int nLa, .int nCl, .int nLn, .ref aKt, .ref aHt, .int nTh])), (aKi, .inl (cI, 12, .inl mKi)), (aOn, .inl (cI, 12, .inl mOn))] sz)) (vp_Si (fun r => r = rX8_isNext nSt nIl nBa nGa nNs nLi nMi nNx nMv nOn nLa nCl nLn nTh mKi mOn p1 p2)) 0 0 (fun _ => False) := by
  refine Met.ofW (cc := cX8_isNext) (maxL := 3) (ret := (some .boolean)) (by decide) rfl ?_
  intro p e s m args below meth c s₁ B hml hv
  obtain ⟨rfl, hsz, hP, hK, hD0, hG⟩ := hv
  have hx := B.exec
  have hb := B.bytes
  have hr := B.returns
  have hts := atoms_spec (ws := wsX8_isNext) B.pre
  have hown : s.vm.findClass RX8 = some m.cls := findClass_of_methodNamed B.named
  have hlocks := B.notSynchronized
  subst hsz
  have hD := hD0.self (sz := s.heap.size)
  generalize hAe : va_A [(w0, .inr (8, [.ref aFk, .ref aFh, .int nSt, .ref aKi, .ref aOn, .ref aOt, .ref aWh, .int nIl, .int nBa, .int nGa, .ref aLe, .ref aWi, .ref aPr, .ref aPl, .ref aPt, .int nNs, .int nLi, .int nMi, .int nNx, .int nMv, .int nOn, .ref aKn, .ref aHa, .int nLa, .int nCl, .int nLn, .ref aKt, .ref aHt, .int nTh])), (aKi, .inl (cI, 12, .inl mKi)), (aOn, .inl (cI, 12, .inl mOn))] s.heap.size = A at hD hG
  have hA : ∀ q : Nat, s.heap.size ≤ q → A q := fun q h => by rw [← hAe]; exact Or.inr h
  have hS : va_S A s.heap s.heap [] := va_S.rf
  have hP : va_P (dC, dI) vwCl [(w0, .inr (8, [.ref aFk, .ref aFh, .int nSt, .ref aKi, .ref aOn, .ref aOt, .ref aWh, .int nIl, .int nBa, .int nGa, .ref aLe, .ref aWi, .ref aPr, .ref aPl, .ref aPt, .int nNs, .int nLi, .int nMi, .int nNx, .int nMv, .int nOn, .ref aKn, .ref aHa, .int nLa, .int nCl, .int nLn, .ref aKt, .ref aHt, .int nTh])), (aKi, .inl (cI, 12, .inl mKi)), (aOn, .inl (cI, 12, .inl mOn))] s.heap := hP
  have hl := lv_entry ([.ref w0, .int p1, .int p2]) (n := 3) (Nat.le_of_ble_eq_true rfl)
  rw [lg_entry_eq]
  generalize (lg_sl ([.ref w0, .int p1, .int p2]) ++ List.replicate (3 - (lg_sl ([.ref w0, .int p1, .int p2])).length) Slot.unset).toArray = ls at hl ⊢
  have hl : lv_has ls 3 [(0, .ref w0), (1, .int p1), (2, .int p2)] := hl
  refine lv_aload_n hx hb dX8_isNext_0 rfl (lv_at hl 0 rfl) ?_
  refine va_get (D := (dC, dI)) (ci := 8) (v := .ref aKi) (C := RX8) (T := TX8) (N := 29) hx hb hts iX8_isNext_X8 hown hK hP 0 rfl rfl 3 (by decide) (hts _ kX8_isNext_1) (fun _ h9 => h9) rfl dX8_isNext_1 ?_
  refine lv_aload_n hx hb dX8_isNext_4 rfl (lv_at hl 0 rfl) ?_
  refine va_get (D := (dC, dI)) (ci := 8) (v := .int nNx) (C := RX8) (T := TX8) (N := 29) hx hb hts iX8_isNext_X8 hown hK hP 0 rfl rfl 18 (by decide) (hts _ kX8_isNext_2) (fun _ h9 => h9) rfl dX8_isNext_5 ?_
  refine va_iald hx hb hK hP 1 0 rfl rfl (i := nNx) hnx dX8_isNext_8 ?_
  refine lv_iload_n hx hb dX8_isNext_9 rfl (lv_at hl 1 rfl) ?_
  refine lv_icmp_ne (tgt := 30) hx hb dX8_isNext_10 (by decide) (fun c_1 => ?_) (fun c_1 => ?_)
  · refine lv_iconst (v := 0) hx hb dX8_isNext_30 (by decide) ?_
    exact W.zret (v := (0 : Int32)) hx hb hr (zNar (Or.inl rfl)) (fun t ht hW => ⟨_, rfl, (by unfold rX8_isNext; rw [if_neg c_1]), ht⟩) (fun q hq => absurd hq List.not_mem_nil) dX8_isNext_31
  · refine lv_aload_n hx hb dX8_isNext_13 rfl (lv_at hl 0 rfl) ?_
    refine va_get (D := (dC, dI)) (ci := 8) (v := .ref aOn) (C := RX8) (T := TX8) (N := 29) hx hb hts iX8_isNext_X8 hown hK hP 0 rfl rfl 4 (by decide) (hts _ kX8_isNext_3) (fun _ h9 => h9) rfl dX8_isNext_14 ?_
    refine lv_aload_n hx hb dX8_isNext_17 rfl (lv_at hl 0 rfl) ?_
    refine va_get (D := (dC, dI)) (ci := 8) (v := .int nNx) (C := RX8) (T := TX8) (N := 29) hx hb hts iX8_isNext_X8 hown hK hP 0 rfl rfl 18 (by decide) (hts _ kX8_isNext_2) (fun _ h9 => h9) rfl dX8_isNext_18 ?_
    refine va_iald hx hb hK hP 2 0 rfl rfl (i := nNx) hnx dX8_isNext_21 ?_
    refine lv_iload_n hx hb dX8_isNext_22 rfl (lv_at hl 2 rfl) ?_
    refine lv_icmp_ne (tgt := 30) hx hb dX8_isNext_23 (by decide) (fun c_2 => ?_) (fun c_2 => ?_)
    · refine lv_iconst (v := 0) hx hb dX8_isNext_30 (by decide) ?_
      exact W.zret (v := (0 : Int32)) hx hb hr (zNar (Or.inl rfl)) (fun t ht hW => ⟨_, rfl, (by unfold rX8_isNext; rw [if_pos c_1, if_neg c_2]), ht⟩) (fun q hq => absurd hq List.not_mem_nil) dX8_isNext_31
    · refine lv_iconst (v := 1) hx hb dX8_isNext_26 (by decide) ?_
      refine lv_goto (tgt := 31) hx hb dX8_isNext_27 (by decide) ?_
      exact W.zret (v := (1 : Int32)) hx hb hr (zNar (Or.inr rfl)) (fun t ht hW => ⟨_, rfl, (by unfold rX8_isNext; rw [if_pos c_1, if_pos c_2]), ht⟩) (fun q hq => absurd hq List.not_mem_nil) dX8_isNext_31
theorem brX8_isNext (nSt : Int32) (nIl : Int32) (nBa : Int32) (nGa : Int32) (nNs : Int32) (nLi : Int32) (nMi : Int32) (nNx : Int32) (nMv : Int32) (nOn : Int32) (nLa : Int32) (nCl : Int32) (nLn : Int32) (nTh : Int32) (mKi : Nat → Int32) (mOn : Nat → Int32) (p1 : Int32) (p2 : Int32) : rX8_isNext nSt nIl nBa nGa nNs nLi nMi nNx nMv nOn nLa nCl nLn nTh mKi mOn p1 p2 = 0 ∨ rX8_isNext nSt nIl nBa nGa nNs nLi nMi nNx nMv nOn nLa nCl nLn nTh mKi mOn p1 p2 = 1 := by
  unfold rX8_isNext
  repeat' split
  all_goals first | exact Or.inl rfl | exact Or.inr rfl

/-! X8_bringing -/
def rX8_bringing (nSt : Int32) (nIl : Int32) (nBa : Int32) (nGa : Int32) (nNs : Int32) (nLi : Int32) (nMi : Int32) (nNx : Int32) (nMv : Int32) (nOn : Int32) (nLa : Int32) (nCl : Int32) (nLn : Int32) (nTh : Int32) (mHa : Nat → Int32) (p1 : Int32) (p2 : Int32) (p3 : Int32) : Int32 := (if (mHa (p3).toNatClampNeg) = p1 then (0 : Int32) else (if (mHa (p3).toNatClampNeg) = (-1 : Int32) then (1 : Int32) else (if (mHa (p3).toNatClampNeg) = p2 then (1 : Int32) else ((1 : Int32) + (rX8_off nSt nIl nBa nGa nNs nLi nMi nNx nMv nOn nLa nCl nLn nTh (mHa (p3).toNatClampNeg))))))
set_option maxRecDepth 20000 in
theorem iX8_bringing_X8 : ∀ w ∈ u_ws RX8 TX8 29, w ∈ wsX8_bringing := by decide +kernel
set_option maxRecDepth 20000 in
theorem kX8_bringing_1 : Cond.fieldLink RX8 50 "MaskHallModel" "has" "[I" ∈ wsX8_bringing := by decide +kernel
set_option maxHeartbeats 700000 in
set_option maxRecDepth 100000 in
theorem c_X8_bringing (l : Launch) (dC : Nat → ClassId) (dI : Nat → Nat → Nat) (cI cJ : ClassId) (w0 aHa aFk aFh aKi aOn aOt aWh aLe aWi aPr aPl aPt aKn aKt aHt : Nat) (sz : Nat) (nSt : Int32) (nIl : Int32) (nBa : Int32) (nGa : Int32) (nNs : Int32) (nLi : Int32) (nMi : Int32) (nNx : Int32) (nMv : Int32) (nOn : Int32) (nLa : Int32) (nCl : Int32) (nLn : Int32) (nTh : Int32) (mHa : Nat → Int32) (p1 : Int32) (p2 : Int32) (p3 : Int32) (hin3 : vp_in p3 4) : Met l yX8_bringing wsX8_bringing ({ frames := 2, cells := 0, slots := 0, locals := 42 }) (va_Pc [.ref w0, .int p1, .int p2, .int p3] (zI (dC, dI) [(cI, .int), (cJ, .long)] [(w0, .inr (8, [.ref aFk, .ref aFh, .int nSt, .ref aKi, .ref aOn, .ref aOt, .ref aWh, .int nIl, .int nBa, .int nGa, .ref aLe, .ref aWi, .ref aPr, .ref aPl, .ref aPt, .int nNs, .int nLi, .int nMi, .int nNx, .int nMv, .int nOn, .ref aKn, .ref aHa, .int nLa, .int nCl, .int nLn, .ref aKt, .ref aHt, .int nTh])), (aHa, .inl (cI, 4, .inl mHa))] sz)) (vp_Si (fun r => r = rX8_bringing nSt nIl nBa nGa nNs nLi nMi nNx nMv nOn nLa nCl nLn nTh mHa p1 p2 p3)) 0 0 (fun _ => False) := by
  refine Met.ofW (cc := cX8_bringing) (maxL := 5) (ret := (some .int)) (by decide) rfl ?_
  intro p e s m args below meth c s₁ B hml hv
  obtain ⟨rfl, hsz, hP, hK, hD0, hG⟩ := hv
  have hx := B.exec
  have hb := B.bytes
  have hr := B.returns
  have hts := atoms_spec (ws := wsX8_bringing) B.pre
  have hown : s.vm.findClass RX8 = some m.cls := findClass_of_methodNamed B.named
  have hlocks := B.notSynchronized
  subst hsz
  have hD := hD0.self (sz := s.heap.size)
  generalize hAe : va_A [(w0, .inr (8, [.ref aFk, .ref aFh, .int nSt, .ref aKi, .ref aOn, .ref aOt, .ref aWh, .int nIl, .int nBa, .int nGa, .ref aLe, .ref aWi, .ref aPr, .ref aPl, .ref aPt, .int nNs, .int nLi, .int nMi, .int nNx, .int nMv, .int nOn, .ref aKn, .ref aHa, .int nLa, .int nCl, .int nLn, .ref aKt, .ref aHt, .int nTh])), (aHa, .inl (cI, 4, .inl mHa))] s.heap.size = A at hD hG
  have hA : ∀ q : Nat, s.heap.size ≤ q → A q := fun q h => by rw [← hAe]; exact Or.inr h
  have hS : va_S A s.heap s.heap [] := va_S.rf
  have hP : va_P (dC, dI) vwCl [(w0, .inr (8, [.ref aFk, .ref aFh, .int nSt, .ref aKi, .ref aOn, .ref aOt, .ref aWh, .int nIl, .int nBa, .int nGa, .ref aLe, .ref aWi, .ref aPr, .ref aPl, .ref aPt, .int nNs, .int nLi, .int nMi, .int nNx, .int nMv, .int nOn, .ref aKn, .ref aHa, .int nLa, .int nCl, .int nLn, .ref aKt, .ref aHt, .int nTh])), (aHa, .inl (cI, 4, .inl mHa))] s.heap := hP
  have hl := lv_entry ([.ref w0, .int p1, .int p2, .int p3]) (n := 5) (Nat.le_of_ble_eq_true rfl)
  rw [lg_entry_eq]
  generalize (lg_sl ([.ref w0, .int p1, .int p2, .int p3]) ++ List.replicate (5 - (lg_sl ([.ref w0, .int p1, .int p2, .int p3])).length) Slot.unset).toArray = ls at hl ⊢
  have hl : lv_has ls 5 [(0, .ref w0), (1, .int p1), (2, .int p2), (3, .int p3)] := hl
  refine lv_aload_n hx hb dX8_bringing_0 rfl (lv_at hl 0 rfl) ?_
  refine va_get (D := (dC, dI)) (ci := 8) (v := .ref aHa) (C := RX8) (T := TX8) (N := 29) hx hb hts iX8_bringing_X8 hown hK hP 0 rfl rfl 22 (by decide) (hts _ kX8_bringing_1) (fun _ h9 => h9) rfl dX8_bringing_1 ?_
  refine lv_iload_n hx hb dX8_bringing_4 rfl (lv_at hl 3 rfl) ?_
  refine va_iald hx hb hK hP 1 0 rfl rfl (i := p3) hin3 dX8_bringing_5 ?_
  refine lv_istore (lv' := [(4, .int (mHa (p3).toNatClampNeg)), (0, .ref w0), (1, .int p1), (2, .int p2), (3, .int p3)]) hx hb dX8_bringing_6 hl (by decide) rfl (fun ls hl => ?_)
  refine lv_iload hx hb dX8_bringing_8 (lv_at hl 0 rfl) ?_
  refine lv_iload_n hx hb dX8_bringing_10 rfl (lv_at hl 2 rfl) ?_
  refine lv_icmp_ne (tgt := 18) hx hb dX8_bringing_11 (by decide) (fun c_1 => ?_) (fun c_1 => ?_)
  · refine lv_iload hx hb dX8_bringing_18 (lv_at hl 0 rfl) ?_
    refine lv_iconst (v := -1) hx hb dX8_bringing_20 (by decide) ?_
    refine lv_icmp_eq (tgt := 30) hx hb dX8_bringing_21 (by decide) (fun c_2 => ?_) (fun c_2 => ?_)
    · refine lv_iconst (v := 1) hx hb dX8_bringing_30 (by decide) ?_
      refine lv_goto (tgt := 42) hx hb dX8_bringing_31 (by decide) ?_
      exact W.iret (v := (1 : Int32)) hx hb hr (fun t ht hW => ⟨_, rfl, (by unfold rX8_bringing; rw [if_neg c_1, if_pos c_2]), ht⟩) (fun q hq => absurd hq List.not_mem_nil) dX8_bringing_42
    · refine lv_iload hx hb dX8_bringing_24 (lv_at hl 0 rfl) ?_
      refine lv_iload_n hx hb dX8_bringing_26 rfl (lv_at hl 3 rfl) ?_
      refine lv_icmp_ne (tgt := 34) hx hb dX8_bringing_27 (by decide) (fun c_3 => ?_) (fun c_3 => ?_)
      · refine lv_iconst (v := 1) hx hb dX8_bringing_34 (by decide) ?_
        refine lv_aload_n hx hb dX8_bringing_35 rfl (lv_at hl 1 rfl) ?_
        refine lv_iload hx hb dX8_bringing_36 (lv_at hl 0 rfl) ?_
        refine zcSi (va_runV (As := [.int (mHa (p3).toNatClampNeg)]) (rest := [.int (1 : Int32)]) ⟨hx, hb, hml, hown, hts⟩ (c_X8_off l dC dI cI cJ w0 aFk aFh aKi aOn aOt aWh aLe aWi aPr aPl aPt aKn aHa aKt aHt s.heap.size nSt nIl nBa nGa nNs nLi nMi nNx nMv nOn nLa nCl nLn nTh (mHa (p3).toNatClampNeg) ) (cwV 1 hts gX8_bringing_X8_off rfl rfl rfl (by decide +kernel) ⟨Nat.le_of_ble_eq_true rfl, Nat.le_of_ble_eq_true rfl⟩) (zpV hK hP hD hS hA hG [0] (by decide) rfl 8 0 rfl rfl) rfl rfl hl.1 rfl (lv_room (Nat.le_of_ble_eq_true rfl)) dX8_bringing_38 ⟨Nat.le_of_ble_eq_true rfl, Nat.le_of_ble_eq_true rfl⟩) ?_
        refine lv_iadd hx hb dX8_bringing_41 ?_
        exact W.iret (v := ((1 : Int32) + (rX8_off nSt nIl nBa nGa nNs nLi nMi nNx nMv nOn nLa nCl nLn nTh (mHa (p3).toNatClampNeg)))) hx hb hr (fun t ht hW => ⟨_, rfl, (by unfold rX8_bringing; rw [if_neg c_1, if_neg c_2, if_neg c_3]), ht⟩) (fun q hq => absurd hq List.not_mem_nil) dX8_bringing_42
      · refine lv_iconst (v := 1) hx hb dX8_bringing_30 (by decide) ?_
        refine lv_goto (tgt := 42) hx hb dX8_bringing_31 (by decide) ?_
        exact W.iret (v := (1 : Int32)) hx hb hr (fun t ht hW => ⟨_, rfl, (by unfold rX8_bringing; rw [if_neg c_1, if_neg c_2, if_pos c_3]), ht⟩) (fun q hq => absurd hq List.not_mem_nil) dX8_bringing_42
  · refine lv_iconst (v := 0) hx hb dX8_bringing_14 (by decide) ?_
    refine lv_goto (tgt := 42) hx hb dX8_bringing_15 (by decide) ?_
    exact W.iret (v := (0 : Int32)) hx hb hr (fun t ht hW => ⟨_, rfl, (by unfold rX8_bringing; rw [if_pos c_1]), ht⟩) (fun q hq => absurd hq List.not_mem_nil) dX8_bringing_42

/-! X8_telling -/
def rX8_telling (nSt : Int32) (nIl : Int32) (nBa : Int32) (nGa : Int32) (nNs : Int32) (nLi : Int32) (nMi : Int32) (nNx : Int32) (nMv : Int32) (nOn : Int32) (nLa : Int32) (nCl : Int32) (nLn : Int32) (nTh : Int32) (mKn : Nat → Int32) (p1 : Int32) (p2 : Int32) : Int32 := (if (rX8_holds (mKn (p2).toNatClampNeg) p1) = 0 then (if (((mKn (p2).toNatClampNeg) &&& nOn) &&& (nIl ^^^ (-1 : Int32))) = 0 then (2 : Int32) else (1 : Int32)) else (0 : Int32))
set_option maxRecDepth 20000 in
theorem iX8_telling_X8 : ∀ w ∈ u_ws RX8 TX8 29, w ∈ wsX8_telling := by decide +kernel
set_option maxRecDepth 20000 in
theorem kX8_telling_1 : Cond.fieldLink RX8 47 "MaskHallModel" "known" "[I" ∈ wsX8_telling := by decide +kernel
set_option maxRecDepth 20000 in
theorem kX8_telling_2 : Cond.fieldLink RX8 96 "MaskHallModel" "on" "I" ∈ wsX8_telling := by decide +kernel
set_option maxRecDepth 20000 in
theorem kX8_telling_3 : Cond.fieldLink RX8 93 "MaskHallModel" "ills" "I" ∈ wsX8_telling := by decide +kernel
set_option maxHeartbeats 680000 in
set_option maxRecDepth 100000 in
theorem c_X8_telling (l : Launch) (dC : Nat → ClassId) (dI : Nat → Nat → Nat) (cI cJ : ClassId) (w0 aKn aFk aFh aKi aOn aOt aWh aLe aWi aPr aPl aPt aHa aKt aHt : Nat) (sz : Nat) (nSt : Int32) (nIl : Int32) (nBa : Int32) (nGa : Int32) (nNs : Int32) (nLi : Int32) (nMi : Int32) (nNx : Int32) (nMv : Int32) (nOn : Int32) (nLa : Int32) (nCl : Int32) (nLn : Int32) (nTh : Int32) (mKn : Nat → Int32) (p1 : Int32) (p2 : Int32) (hin2 : vp_in p2 4) : Met l yX8_telling wsX8_telling ({ frames := 1, cells := 0, slots := 0, locals := 21 }) (va_Pc [.ref w0, .int p1, .int p2] (zI (dC, dI) [(cI, .int), (cJ, .long)] [(w0, .inr (8, [.ref aFk, .ref aFh, .int nSt, .ref aKi, .ref aOn, .ref aOt, .ref aWh, .int nIl, .int nBa, .int nGa, .ref aLe, .ref aWi, .ref aPr, .ref aPl, .ref aPt, .int nNs, .int nLi, .int nMi, .int nNx, .int nMv, .int nOn, .ref aKn, .ref aHa, .int nLa, .int nCl, .int nLn, .ref aKt, .ref aHt, .int nTh])), (aKn, .inl (cI, 4, .inl mKn))] sz)) (vp_Si (fun r => r = rX8_telling nSt nIl nBa nGa nNs nLi nMi nNx nMv nOn nLa nCl nLn nTh mKn p1 p2)) 0 0 (fun _ => False) := by
  refine Met.ofW (cc := cX8_telling) (maxL := 3) (ret := (some .int)) (by decide) rfl ?_
  intro p e s m args below meth c s₁ B hml hv
  obtain ⟨rfl, hsz, hP, hK, hD0, hG⟩ := hv
  have hx := B.exec
  have hb := B.bytes
  have hr := B.returns
  have hts := atoms_spec (ws := wsX8_telling) B.pre
  have hown : s.vm.findClass RX8 = some m.cls := findClass_of_methodNamed B.named
  have hlocks := B.notSynchronized
  subst hsz
  have hD := hD0.self (sz := s.heap.size)
  generalize hAe : va_A [(w0, .inr (8, [.ref aFk, .ref aFh, .int nSt, .ref aKi, .ref aOn, .ref aOt, .ref aWh, .int nIl, .int nBa, .int nGa, .ref aLe, .ref aWi, .ref aPr, .ref aPl, .ref aPt, .int nNs, .int nLi, .int nMi, .int nNx, .int nMv, .int nOn, .ref aKn, .ref aHa, .int nLa, .int nCl, .int nLn, .ref aKt, .ref aHt, .int nTh])), (aKn, .inl (cI, 4, .inl mKn))] s.heap.size = A at hD hG
  have hA : ∀ q : Nat, s.heap.size ≤ q → A q := fun q h => by rw [← hAe]; exact Or.inr h
  have hS : va_S A s.heap s.heap [] := va_S.rf
  have hP : va_P (dC, dI) vwCl [(w0, .inr (8, [.ref aFk, .ref aFh, .int nSt, .ref aKi, .ref aOn, .ref aOt, .ref aWh, .int nIl, .int nBa, .int nGa, .ref aLe, .ref aWi, .ref aPr, .ref aPl, .ref aPt, .int nNs, .int nLi, .int nMi, .int nNx, .int nMv, .int nOn, .ref aKn, .ref aHa, .int nLa, .int nCl, .int nLn, .ref aKt, .ref aHt, .int nTh])), (aKn, .inl (cI, 4, .inl mKn))] s.heap := hP
  have hl := lv_entry ([.ref w0, .int p1, .int p2]) (n := 3) (Nat.le_of_ble_eq_true rfl)
  rw [lg_entry_eq]
  generalize (lg_sl ([.ref w0, .int p1, .int p2]) ++ List.replicate (3 - (lg_sl ([.ref w0, .int p1, .int p2])).length) Slot.unset).toArray = ls at hl ⊢
  have hl : lv_has ls 3 [(0, .ref w0), (1, .int p1), (2, .int p2)] := hl
  refine lv_aload_n hx hb dX8_telling_0 rfl (lv_at hl 0 rfl) ?_
  refine va_get (D := (dC, dI)) (ci := 8) (v := .ref aKn) (C := RX8) (T := TX8) (N := 29) hx hb hts iX8_telling_X8 hown hK hP 0 rfl rfl 21 (by decide) (hts _ kX8_telling_1) (fun _ h9 => h9) rfl dX8_telling_1 ?_
  refine lv_iload_n hx hb dX8_telling_4 rfl (lv_at hl 2 rfl) ?_
  refine va_iald hx hb hK hP 1 0 rfl rfl (i := p2) hin2 dX8_telling_5 ?_
  refine lv_iload_n hx hb dX8_telling_6 rfl (lv_at hl 1 rfl) ?_
  refine zcSi (va_runS (As := [.int (mKn (p2).toNatClampNeg), .int p1]) (rest := []) ⟨hx, hb, hml, hown, hts⟩ (c_X8_holds l dC dI cI cJ s.heap.size (mKn (p2).toNatClampNeg) p1 ) (va_cwS 2 hts gX8_telling_X8_holds rfl rfl rfl (by decide +kernel) ⟨Nat.le_of_ble_eq_true rfl, Nat.le_of_ble_eq_true rfl⟩) (zpS hK hP hD hS hA hG [] (by decide) rfl) rfl rfl hl.1 rfl (lv_room (Nat.le_of_ble_eq_true rfl)) dX8_telling_7 ⟨Nat.le_of_ble_eq_true rfl, Nat.le_of_ble_eq_true rfl⟩) ?_
  refine lv_if_eq (tgt := 15) hx hb dX8_telling_10 (by decide) (fun c_1 => ?_) (fun c_1 => ?_)
  · refine lv_aload_n hx hb dX8_telling_15 rfl (lv_at hl 0 rfl) ?_
    refine va_get (D := (dC, dI)) (ci := 8) (v := .ref aKn) (C := RX8) (T := TX8) (N := 29) hx hb hts iX8_telling_X8 hown hK hP 0 rfl rfl 21 (by decide) (hts _ kX8_telling_1) (fun _ h9 => h9) rfl dX8_telling_16 ?_
    refine lv_iload_n hx hb dX8_telling_19 rfl (lv_at hl 2 rfl) ?_
    refine va_iald hx hb hK hP 1 0 rfl rfl (i := p2) hin2 dX8_telling_20 ?_
    refine lv_aload_n hx hb dX8_telling_21 rfl (lv_at hl 0 rfl) ?_
    refine va_get (D := (dC, dI)) (ci := 8) (v := .int nOn) (C := RX8) (T := TX8) (N := 29) hx hb hts iX8_telling_X8 hown hK hP 0 rfl rfl 20 (by decide) (hts _ kX8_telling_2) (fun _ h9 => h9) rfl dX8_telling_22 ?_
    refine lv_iand hx hb dX8_telling_25 ?_
    refine lv_aload_n hx hb dX8_telling_26 rfl (lv_at hl 0 rfl) ?_
    refine va_get (D := (dC, dI)) (ci := 8) (v := .int nIl) (C := RX8) (T := TX8) (N := 29) hx hb hts iX8_telling_X8 hown hK hP 0 rfl rfl 7 (by decide) (hts _ kX8_telling_3) (fun _ h9 => h9) rfl dX8_telling_27 ?_
    refine lv_iconst (v := -1) hx hb dX8_telling_30 (by decide) ?_
    refine lv_ixor hx hb dX8_telling_31 ?_
    refine lv_iand hx hb dX8_telling_32 ?_
    refine lv_if_eq (tgt := 40) hx hb dX8_telling_33 (by decide) (fun c_2 => ?_) (fun c_2 => ?_)
    · refine lv_iconst (v := 2) hx hb dX8_telling_40 (by decide) ?_
      exact W.iret (v := (2 : Int32)) hx hb hr (fun t ht hW => ⟨_, rfl, (by unfold rX8_telling; rw [if_pos c_1, if_pos c_2]), ht⟩) (fun q hq => absurd hq List.not_mem_nil) dX8_telling_41
    · refine lv_iconst (v := 1) hx hb dX8_telling_36 (by decide) ?_
      refine lv_goto (tgt := 41) hx hb dX8_telling_37 (by decide) ?_
      exact W.iret (v := (1 : Int32)) hx hb hr (fun t ht hW => ⟨_, rfl, (by unfold rX8_telling; rw [if_pos c_1, if_neg c_2]), ht⟩) (fun q hq => absurd hq List.not_mem_nil) dX8_telling_41
  · refine lv_iconst (v := 0) hx hb dX8_telling_13 (by decide) ?_
    exact W.iret (v := (0 : Int32)) hx hb hr (fun t ht hW => ⟨_, rfl, (by unfold rX8_telling; rw [if_neg c_1]), ht⟩) (fun q hq => absurd hq List.not_mem_nil) dX8_telling_14

/-! X8_isToldBehind -/
def jX8_isToldBehind_59_0 (nSt : Int32) (nIl : Int32) (nBa : Int32) (nGa : Int32) (nNs : Int32) (nLi : Int32) (nMi : Int32) (nNx : Int32) (nMv : Int32) (nOn : Int32) (nLa : Int32) (nCl : Int32) (nLn : Int32) (nTh : Int32) (mKi : Nat → Int32) (mOt : Nat → Int32) (mWh : Nat → Int32) (p1 : Int32) (p2 : Int32) (p3 : Int32) (is1 : Int32) (j1 : Int32) : Int32 := (if is1 = 0 then (if (mKi (j1).toNatClampNeg) = 0 then (if (mOt (j1).toNatClampNeg) = p2 then (if (mWh (j1).toNatClampNeg) = p3 then (1 : Int32) else (0 : Int32)) else (0 : Int32)) else (0 : Int32)) else (1 : Int32))
theorem bjX8_isToldBehind_59_0 (nSt : Int32) (nIl : Int32) (nBa : Int32) (nGa : Int32) (nNs : Int32) (nLi : Int32) (nMi : Int32) (nNx : Int32) (nMv : Int32) (nOn : Int32) (nLa : Int32) (nCl : Int32) (nLn : Int32) (nTh : Int32) (mKi : Nat → Int32) (mOt : Nat → Int32) (mWh : Nat → Int32) (p1 : Int32) (p2 : Int32) (p3 : Int32) (is1 : Int32) (j1 : Int32) : jX8_isToldBehind_59_0 nSt nIl nBa nGa nNs nLi nMi nNx nMv nOn nLa nCl nLn nTh mKi mOt mWh p1 p2 p3 is1 j1 = 0 ∨ jX8_isToldBehind_59_0 nSt nIl nBa nGa nNs nLi nMi nNx nMv nOn nLa nCl nLn nTh mKi mOt mWh p1 p2 p3 is1 j1 = 1 := by
  unfold jX8_isToldBehind_59_0
  repeat' split
  all_goals first | exact Or.inl rfl | exact Or.inr rfl
def lX8_isToldBehind_8_r (nSt : Int32) (nIl : Int32) (nBa : Int32) (nGa : Int32) (nNs : Int32) (nLi : Int32) (nMi : Int32) (nNx : Int32) (nMv : Int32) (nOn : Int32) (nLa : Int32) (nCl : Int32) (nLn : Int32) (nTh : Int32) (mKi : Nat → Int32) (mOt : Nat → Int32) (mWh : Nat → Int32) (p1 : Int32) (p2 : Int32) (p3 : Int32) : Nat → (Int32) → (Int32) → (Int32)
  | 0, _, _ => 0
  | n8 + 1, is1, j1 => (if nSt ≤ j1 then is1 else (lX8_isToldBehind_8_r nSt nIl nBa nGa nNs nLi nMi nNx nMv nOn nLa nCl nLn nTh mKi mOt mWh p1 p2 p3 n8 (jX8_isToldBehind_59_0 nSt nIl nBa nGa nNs nLi nMi nNx nMv nOn nLa nCl nLn nTh mKi mOt mWh p1 p2 p3 is1 j1) (j1 + 1)))
def rX8_isToldBehind (nSt : Int32) (nIl : Int32) (nBa : Int32) (nGa : Int32) (nNs : Int32) (nLi : Int32) (nMi : Int32) (nNx : Int32) (nMv : Int32) (nOn : Int32) (nLa : Int32) (nCl : Int32) (nLn : Int32) (nTh : Int32) (mKi : Nat → Int32) (mOt : Nat → Int32) (mWh : Nat → Int32) (p1 : Int32) (p2 : Int32) (p3 : Int32) : Int32 := (lX8_isToldBehind_8_r nSt nIl nBa nGa nNs nLi nMi nNx nMv nOn nLa nCl nLn nTh mKi mOt mWh p1 p2 p3 14 (0 : Int32) (p1 + (1 : Int32)))
set_option maxRecDepth 20000 in
theorem iX8_isToldBehind_X8 : ∀ w ∈ u_ws RX8 TX8 29, w ∈ wsX8_isToldBehind := by decide +kernel
set_option maxRecDepth 20000 in
theorem kX8_isToldBehind_1 : Cond.fieldLink RX8 90 "MaskHallModel" "steps" "I" ∈ wsX8_isToldBehind := by decide +kernel
set_option maxRecDepth 20000 in
theorem kX8_isToldBehind_2 : Cond.fieldLink RX8 16 "MaskHallModel" "kind" "[I" ∈ wsX8_isToldBehind := by decide +kernel
set_option maxRecDepth 20000 in
theorem kX8_isToldBehind_3 : Cond.fieldLink RX8 22 "MaskHallModel" "other" "[I" ∈ wsX8_isToldBehind := by decide +kernel
set_option maxRecDepth 20000 in
theorem kX8_isToldBehind_4 : Cond.fieldLink RX8 25 "MaskHallModel" "what" "[I" ∈ wsX8_isToldBehind := by decide +kernel
set_option maxHeartbeats 1040000 in
set_option maxRecDepth 100000 in
theorem c_X8_isToldBehind (l : Launch) (dC : Nat → ClassId) (dI : Nat → Nat → Nat) (cI cJ : ClassId) (w0 aKi aOt aWh aFk aFh aOn aLe aWi aPr aPl aPt aKn aHa aKt aHt : Nat) (sz : Nat) (nSt : Int32) (nIl : Int32) (nBa : Int32) (nGa : Int32) (nNs : Int32) (nLi : Int32) (nMi : Int32) (nNx : Int32) (nMv : Int32) (nOn : Int32) (nLa : Int32) (nCl : Int32) (nLn : Int32) (nTh : Int32) (mKi : Nat → Int32) (mOt : Nat → Int32) (mWh : Nat → Int32) (p1 : Int32) (p2 : Int32) (p3 : Int32) (hst0 : 0 ≤ nSt.toInt) (hst : nSt.toInt ≤ 12) (hj0 : 0 ≤ (p1 + 1).toInt) : Met l yX8_isToldBehind wsX8_isToldBehind ({ frames := 0, cells := 0, slots := 0, locals := 0 }) (va_Pc [.ref w0, .int p1, .int p2, .int p3] (zI (dC, dI) [(cI, .int), (cJ, .long)] [(w0, .inr (8, [.ref aFk, .ref aFh, .int nSt, .ref aKi, .ref aOn, .ref aOt, .ref aWh, .int nIl, .int nBa, .int nGa, .ref aLe, .ref aWi, .ref aPr, .ref aPl, .ref aPt, .int nNs, .int nLi, .int nMi, .int nNx, .int nMv, .int nOn, .ref aKn, .ref aHa, .int nLa, .int nCl, .int nLn, .ref aKt, .ref aHt, .int nTh])), (aKi, .inl (cI, 12, .inl mKi)), (aOt, .inl (cI, 12, .inl mOt)), (aWh, .inl (cI, 12, .inl mWh))] sz)) (vp_Si (fun r => r = rX8_isToldBehind nSt nIl nBa nGa nNs nLi nMi nNx nMv nOn nLa nCl nLn nTh mKi mOt mWh p1 p2 p3)) 0 0 (fun _ => False) := by
  refine Met.ofW (cc := cX8_isToldBehind) (maxL := 6) (ret := (some .boolean)) (by decide) rfl ?_
  intro p e s m args below meth c s₁ B hml hv
  obtain ⟨rfl, hsz, hP, hK, hD0, hG⟩ := hv
  have hx := B.exec
  have hb := B.bytes
  have hr := B.returns
  have hts := atoms_spec (ws := wsX8_isToldBehind) B.pre
  have hown : s.vm.findClass RX8 = some m.cls := findClass_of_methodNamed B.named
  have hlocks := B.notSynchronized
  subst hsz
  have hD := hD0.self (sz := s.heap.size)
  generalize hAe : va_A [(w0, .inr (8, [.ref aFk, .ref aFh, .int nSt, .ref aKi, .ref aOn, .ref aOt, .ref aWh, .int nIl, .int nBa, .int nGa, .ref aLe, .ref aWi, .ref aPr, .ref aPl, .ref aPt, .int nNs, .int nLi, .int nMi, .int nNx, .int nMv, .int nOn, .ref aKn, .ref aHa, .int nLa, .int nCl, .int nLn, .ref aKt, .ref aHt, .int nTh])), (aKi, .inl (cI, 12, .inl mKi)), (aOt, .inl (cI, 12, .inl mOt)), (aWh, .inl (cI, 12, .inl mWh))] s.heap.size = A at hD hG
  have hA : ∀ q : Nat, s.heap.size ≤ q → A q := fun q h => by rw [← hAe]; exact Or.inr h
  have hS : va_S A s.heap s.heap [] := va_S.rf
  have hP : va_P (dC, dI) vwCl [(w0, .inr (8, [.ref aFk, .ref aFh, .int nSt, .ref aKi, .ref aOn, .ref aOt, .ref aWh, .int nIl, .int nBa, .int nGa, .ref aLe, .ref aWi, .ref aPr, .ref aPl, .ref aPt, .int nNs, .int nLi, .int nMi, .int nNx, .int nMv, .int nOn, .ref aKn, .ref aHa, .int nLa, .int nCl, .int nLn, .ref aKt, .ref aHt, .int nTh])), (aKi, .inl (cI, 12, .inl mKi)), (aOt, .inl (cI, 12, .inl mOt)), (aWh, .inl (cI, 12, .inl mWh))] s.heap := hP
  have hl := lv_entry ([.ref w0, .int p1, .int p2, .int p3]) (n := 6) (Nat.le_of_ble_eq_true rfl)
  rw [lg_entry_eq]
  generalize (lg_sl ([.ref w0, .int p1, .int p2, .int p3]) ++ List.replicate (6 - (lg_sl ([.ref w0, .int p1, .int p2, .int p3])).length) Slot.unset).toArray = ls at hl ⊢
  have hl : lv_has ls 6 [(0, .ref w0), (1, .int p1), (2, .int p2), (3, .int p3)] := hl
  refine lv_iconst (v := 0) hx hb dX8_isToldBehind_0 (by decide) ?_
  refine lv_istore (lv' := [(4, .int (0 : Int32)), (0, .ref w0), (1, .int p1), (2, .int p2), (3, .int p3)]) hx hb dX8_isToldBehind_1 hl (by decide) rfl (fun ls hl => ?_)
  refine lv_iload_n hx hb dX8_isToldBehind_3 rfl (lv_at hl 2 rfl) ?_
  refine lv_iconst (v := 1) hx hb dX8_isToldBehind_4 (by decide) ?_
  refine lv_iadd hx hb dX8_isToldBehind_5 ?_
  refine lv_istore (lv' := [(5, .int (p1 + (1 : Int32))), (4, .int (0 : Int32)), (0, .ref w0), (1, .int p1), (2, .int p2), (3, .int p3)]) hx hb dX8_isToldBehind_6 hl (by decide) rfl (fun ls hl => ?_)
  refine zNm (fun R9 Q9 hR9 hQ9 => ?_)
  have L8 : ∀ (n8 : Nat) (is1 : Int32) (j1 : Int32), 0 ≤ j1.toInt → (nSt).toInt - j1.toInt < n8 ∧ 0 < n8 → is1 = 0 ∨ is1 = 1 → lX8_isToldBehind_8_r nSt nIl nBa nGa nNs nLi nMi nNx nMv nOn nLa nCl nLn nTh mKi mOt mWh p1 p2 p3 n8 is1 j1 = rX8_isToldBehind nSt nIl nBa nGa nNs nLi nMi nNx nMv nOn nLa nCl nLn nTh mKi mOt mWh p1 p2 p3 → ∀ (ls : Array Slot), lv_has ls 6 [(5, .int j1), (4, .int is1), (0, .ref w0), (1, .int p1), (2, .int p2), (3, .int p3)] → W p l e R9 s m ([.ref w0, .int p1, .int p2, .int p3] : List Value).toArray below meth c s.heap [] 0 0 Q9 (F0 m 8 ls []) := by
    subst hR9; subst hQ9
    intro n8
    induction n8 with
    | zero => intro is1 j1 hi0 hi2 his; exact absurd hi2.2 (by decide)
    | succ n8 ih8 =>
      intro is1 j1 hi0 hi2 his hres8_r ls hl
      refine lv_iload hx hb dX8_isToldBehind_8 (lv_at hl 0 rfl) ?_
      refine lv_aload_n hx hb dX8_isToldBehind_10 rfl (lv_at hl 2 rfl) ?_
      refine va_get (D := (dC, dI)) (ci := 8) (v := .int nSt) (C := RX8) (T := TX8) (N := 29) hx hb hts iX8_isToldBehind_X8 hown hK hP 0 rfl rfl 2 (by decide) (hts _ kX8_isToldBehind_1) (fun _ h9 => h9) rfl dX8_isToldBehind_11 ?_
      refine lv_icmp_ge (tgt := 67) hx hb dX8_isToldBehind_14 (by decide) (fun c_1 => ?_) (fun c_1 => ?_)
      · refine lv_iload hx hb dX8_isToldBehind_67 (lv_at hl 1 rfl) ?_
        exact W.zret (v := is1) hx hb hr (zNar (by assumption)) (fun t ht hW => ⟨_, rfl, (by rw [← hres8_r]; rw [lX8_isToldBehind_8_r]; rw [if_pos c_1]), ht⟩) (fun q hq => absurd hq List.not_mem_nil) dX8_isToldBehind_69
      · refine lv_iload hx hb dX8_isToldBehind_17 (lv_at hl 1 rfl) ?_
        refine zNm (fun R9 Q9 hR9 hQ9 => ?_)
        have J59 : ∀ (v59_0 : Int32), v59_0 = (jX8_isToldBehind_59_0 nSt nIl nBa nGa nNs nLi nMi nNx nMv nOn nLa nCl nLn nTh mKi mOt mWh p1 p2 p3 is1 j1) → ∀ (ls : Array Slot), lv_has ls 6 [(5, .int j1), (4, .int is1), (0, .ref w0), (1, .int p1), (2, .int p2), (3, .int p3)] → W p l e R9 s m ([.ref w0, .int p1, .int p2, .int p3] : List Value).toArray below meth c s.heap [] 0 0 Q9 (F0 m 59 ls [.int v59_0]) := by
          subst hR9; subst hQ9
          intro v59_0 hvv59_0
          rw [hvv59_0]; clear hvv59_0 v59_0
          intro ls hl
          refine lv_istore (lv' := [(4, .int (jX8_isToldBehind_59_0 nSt nIl nBa nGa nNs nLi nMi nNx nMv nOn nLa nCl nLn nTh mKi mOt mWh p1 p2 p3 is1 j1)), (5, .int j1), (0, .ref w0), (1, .int p1), (2, .int p2), (3, .int p3)]) hx hb dX8_isToldBehind_59 hl (by decide) rfl (fun ls hl => ?_)
          refine lv_iinc (v := (j1 + 1)) (lv' := [(5, .int (j1 + 1)), (4, .int (jX8_isToldBehind_59_0 nSt nIl nBa nGa nNs nLi nMi nNx nMv nOn nLa nCl nLn nTh mKi mOt mWh p1 p2 p3 is1 j1)), (0, .ref w0), (1, .int p1), (2, .int p2), (3, .int p3)]) hx hb dX8_isToldBehind_61 hl (k := 1) rfl rfl (by decide) rfl (fun ls hl => ?_)
          refine lv_goto (tgt := 8) hx hb dX8_isToldBehind_64 (by decide) ?_
          exact ih8 (jX8_isToldBehind_59_0 nSt nIl nBa nGa nNs nLi nMi nNx nMv nOn nLa nCl nLn nTh mKi mOt mWh p1 p2 p3 is1 j1) (j1 + 1) (by have h9 := zInc (x := j1) (y := nSt) (by assumption); omega) (by have h9 := zInc (x := j1) (y := nSt) (by assumption); have h8 := zGo (x := j1) (y := nSt) (by assumption); omega) (bjX8_isToldBehind_59_0 _ _ _ _ _ _ _ _ _ _ _ _ _ _ _ _ _ _ _ _ _ _) (by rw [← hres8_r]; rw [lX8_isToldBehind_8_r]; rw [if_neg c_1]) _ (lv_sub hl [0, 1, 2, 3, 4, 5] rfl)
        subst hR9; subst hQ9
        refine lv_if_ne (tgt := 54) hx hb dX8_isToldBehind_19 (by decide) (fun c_2 => ?_) (fun c_2 => ?_)
        · refine lv_iconst (v := 1) hx hb dX8_isToldBehind_54 (by decide) ?_
          refine lv_goto (tgt := 59) hx hb dX8_isToldBehind_55 (by decide) ?_
          exact J59 (1 : Int32) (by unfold jX8_isToldBehind_59_0; rw [if_neg c_2]) _ (lv_sub hl [0, 1, 2, 3, 4, 5] rfl)
        · refine lv_aload_n hx hb dX8_isToldBehind_22 rfl (lv_at hl 2 rfl) ?_
          refine va_get (D := (dC, dI)) (ci := 8) (v := .ref aKi) (C := RX8) (T := TX8) (N := 29) hx hb hts iX8_isToldBehind_X8 hown hK hP 0 rfl rfl 3 (by decide) (hts _ kX8_isToldBehind_2) (fun _ h9 => h9) rfl dX8_isToldBehind_23 ?_
          refine lv_iload hx hb dX8_isToldBehind_26 (lv_at hl 0 rfl) ?_
          refine va_iald hx hb hK hP 1 0 rfl rfl (i := j1) (by first | assumption | exact zin_a (by assumption) (by assumption) (by assumption) | exact zin_c (by assumption) (by assumption) (by assumption) | exact zin_c (by assumption) (by assumption) (by decide) | exact zin_e (by assumption) (by assumption) (by decide) | exact zin_e (by assumption) (by assumption) (by assumption) | exact zin_f (by assumption) (by assumption) (by assumption)) dX8_isToldBehind_28 ?_
          refine lv_if_ne (tgt := 58) hx hb dX8_isToldBehind_29 (by decide) (fun c_3 => ?_) (fun c_3 => ?_)
          · refine lv_iconst (v := 0) hx hb dX8_isToldBehind_58 (by decide) ?_
            exact J59 (0 : Int32) (by unfold jX8_isToldBehind_59_0; rw [if_pos c_2, if_neg c_3]) _ (lv_sub hl [0, 1, 2, 3, 4, 5] rfl)
          · refine lv_aload_n hx hb dX8_isToldBehind_32 rfl (lv_at hl 2 rfl) ?_
            refine va_get (D := (dC, dI)) (ci := 8) (v := .ref aOt) (C := RX8) (T := TX8) (N := 29) hx hb hts iX8_isToldBehind_X8 hown hK hP 0 rfl rfl 5 (by decide) (hts _ kX8_isToldBehind_3) (fun _ h9 => h9) rfl dX8_isToldBehind_33 ?_
            refine lv_iload hx hb dX8_isToldBehind_36 (lv_at hl 0 rfl) ?_
            refine va_iald hx hb hK hP 2 0 rfl rfl (i := j1) (by first | assumption | exact zin_a (by assumption) (by assumption) (by assumption) | exact zin_c (by assumption) (by assumption) (by assumption) | exact zin_c (by assumption) (by assumption) (by decide) | exact zin_e (by assumption) (by assumption) (by decide) | exact zin_e (by assumption) (by assumption) (by assumption) | exact zin_f (by assumption) (by assumption) (by assumption)) dX8_isToldBehind_38 ?_
            refine lv_iload_n hx hb dX8_isToldBehind_39 rfl (lv_at hl 4 rfl) ?_
            refine lv_icmp_ne (tgt := 58) hx hb dX8_isToldBehind_40 (by decide) (fun c_4 => ?_) (fun c_4 => ?_)
            · refine lv_iconst (v := 0) hx hb dX8_isToldBehind_58 (by decide) ?_
              exact J59 (0 : Int32) (by unfold jX8_isToldBehind_59_0; rw [if_pos c_2, if_pos c_3, if_neg c_4]) _ (lv_sub hl [0, 1, 2, 3, 4, 5] rfl)
            · refine lv_aload_n hx hb dX8_isToldBehind_43 rfl (lv_at hl 2 rfl) ?_
              refine va_get (D := (dC, dI)) (ci := 8) (v := .ref aWh) (C := RX8) (T := TX8) (N := 29) hx hb hts iX8_isToldBehind_X8 hown hK hP 0 rfl rfl 6 (by decide) (hts _ kX8_isToldBehind_4) (fun _ h9 => h9) rfl dX8_isToldBehind_44 ?_
              refine lv_iload hx hb dX8_isToldBehind_47 (lv_at hl 0 rfl) ?_
              refine va_iald hx hb hK hP 3 0 rfl rfl (i := j1) (by first | assumption | exact zin_a (by assumption) (by assumption) (by assumption) | exact zin_c (by assumption) (by assumption) (by assumption) | exact zin_c (by assumption) (by assumption) (by decide) | exact zin_e (by assumption) (by assumption) (by decide) | exact zin_e (by assumption) (by assumption) (by assumption) | exact zin_f (by assumption) (by assumption) (by assumption)) dX8_isToldBehind_49 ?_
              refine lv_iload_n hx hb dX8_isToldBehind_50 rfl (lv_at hl 5 rfl) ?_
              refine lv_icmp_ne (tgt := 58) hx hb dX8_isToldBehind_51 (by decide) (fun c_5 => ?_) (fun c_5 => ?_)
              · refine lv_iconst (v := 0) hx hb dX8_isToldBehind_58 (by decide) ?_
                exact J59 (0 : Int32) (by unfold jX8_isToldBehind_59_0; rw [if_pos c_2, if_pos c_3, if_pos c_4, if_neg c_5]) _ (lv_sub hl [0, 1, 2, 3, 4, 5] rfl)
              · refine lv_iconst (v := 1) hx hb dX8_isToldBehind_54 (by decide) ?_
                refine lv_goto (tgt := 59) hx hb dX8_isToldBehind_55 (by decide) ?_
                exact J59 (1 : Int32) (by unfold jX8_isToldBehind_59_0; rw [if_pos c_2, if_pos c_3, if_pos c_4, if_pos c_5]) _ (lv_sub hl [0, 1, 2, 3, 4, 5] rfl)
  subst hR9; subst hQ9
  exact L8 14 (0 : Int32) (p1 + (1 : Int32)) hj0 (by omega) (Or.inl rfl) (by unfold rX8_isToldBehind; rfl) _ (lv_sub hl [0, 1, 2, 3, 4, 5] rfl)

/-! X8_canTell -/
def jX8_canTell_78_0 (nSt : Int32) (nIl : Int32) (nBa : Int32) (nGa : Int32) (nNs : Int32) (nLi : Int32) (nMi : Int32) (nNx : Int32) (nMv : Int32) (nOn : Int32) (nLa : Int32) (nCl : Int32) (nLn : Int32) (nTh : Int32) (mKi : Nat → Int32) (mOn : Nat → Int32) (mOt : Nat → Int32) (mWh : Nat → Int32) (mKt : Nat → Int32) (p1 : Int32) : Int32 := (if ((mKt ((mWh (p1).toNatClampNeg)).toNatClampNeg) &&& (nIl ^^^ (-1 : Int32))) = 0 then (0 : Int32) else (if (rX8_isToldBehind nSt nIl nBa nGa nNs nLi nMi nNx nMv nOn nLa nCl nLn nTh mKi mOt mWh p1 (mOn (p1).toNatClampNeg) (mWh (p1).toNatClampNeg)) = 0 then (1 : Int32) else (0 : Int32)))
theorem bjX8_canTell_78_0 (nSt : Int32) (nIl : Int32) (nBa : Int32) (nGa : Int32) (nNs : Int32) (nLi : Int32) (nMi : Int32) (nNx : Int32) (nMv : Int32) (nOn : Int32) (nLa : Int32) (nCl : Int32) (nLn : Int32) (nTh : Int32) (mKi : Nat → Int32) (mOn : Nat → Int32) (mOt : Nat → Int32) (mWh : Nat → Int32) (mKt : Nat → Int32) (p1 : Int32) : jX8_canTell_78_0 nSt nIl nBa nGa nNs nLi nMi nNx nMv nOn nLa nCl nLn nTh mKi mOn mOt mWh mKt p1 = 0 ∨ jX8_canTell_78_0 nSt nIl nBa nGa nNs nLi nMi nNx nMv nOn nLa nCl nLn nTh mKi mOn mOt mWh mKt p1 = 1 := by
  unfold jX8_canTell_78_0
  repeat' split
  all_goals first | exact Or.inl rfl | exact Or.inr rfl
def jX8_canTell_41_0 (nSt : Int32) (nIl : Int32) (nBa : Int32) (nGa : Int32) (nNs : Int32) (nLi : Int32) (nMi : Int32) (nNx : Int32) (nMv : Int32) (nOn : Int32) (nLa : Int32) (nCl : Int32) (nLn : Int32) (nTh : Int32) (mKi : Nat → Int32) (mOn : Nat → Int32) (mOt : Nat → Int32) (mWh : Nat → Int32) (mKt : Nat → Int32) (p1 : Int32) : Int32 := (if (rX8_holds nBa (mWh (p1).toNatClampNeg)) = 0 then (if (rX8_holds (mKt ((mWh (p1).toNatClampNeg)).toNatClampNeg) (mOt (p1).toNatClampNeg)) = 0 then (1 : Int32) else (0 : Int32)) else (0 : Int32))
theorem bjX8_canTell_41_0 (nSt : Int32) (nIl : Int32) (nBa : Int32) (nGa : Int32) (nNs : Int32) (nLi : Int32) (nMi : Int32) (nNx : Int32) (nMv : Int32) (nOn : Int32) (nLa : Int32) (nCl : Int32) (nLn : Int32) (nTh : Int32) (mKi : Nat → Int32) (mOn : Nat → Int32) (mOt : Nat → Int32) (mWh : Nat → Int32) (mKt : Nat → Int32) (p1 : Int32) : jX8_canTell_41_0 nSt nIl nBa nGa nNs nLi nMi nNx nMv nOn nLa nCl nLn nTh mKi mOn mOt mWh mKt p1 = 0 ∨ jX8_canTell_41_0 nSt nIl nBa nGa nNs nLi nMi nNx nMv nOn nLa nCl nLn nTh mKi mOn mOt mWh mKt p1 = 1 := by
  unfold jX8_canTell_41_0
  repeat' split
  all_goals first | exact Or.inl rfl | exact Or.inr rfl
def jX8_canTell_112_0 (nSt : Int32) (nIl : Int32) (nBa : Int32) (nGa : Int32) (nNs : Int32) (nLi : Int32) (nMi : Int32) (nNx : Int32) (nMv : Int32) (nOn : Int32) (nLa : Int32) (nCl : Int32) (nLn : Int32) (nTh : Int32) (mKi : Nat → Int32) (mOn : Nat → Int32) (mOt : Nat → Int32) (mWh : Nat → Int32) (mKt : Nat → Int32) (p1 : Int32) : Int32 := (if (jX8_canTell_41_0 nSt nIl nBa nGa nNs nLi nMi nNx nMv nOn nLa nCl nLn nTh mKi mOn mOt mWh mKt p1) = 0 then (0 : Int32) else (if (rX8_holds (mKt ((mWh (p1).toNatClampNeg)).toNatClampNeg) (mOn (p1).toNatClampNeg)) = 0 then (if (jX8_canTell_78_0 nSt nIl nBa nGa nNs nLi nMi nNx nMv nOn nLa nCl nLn nTh mKi mOn mOt mWh mKt p1) = 0 then (0 : Int32) else (1 : Int32)) else (1 : Int32)))
theorem bjX8_canTell_112_0 (nSt : Int32) (nIl : Int32) (nBa : Int32) (nGa : Int32) (nNs : Int32) (nLi : Int32) (nMi : Int32) (nNx : Int32) (nMv : Int32) (nOn : Int32) (nLa : Int32) (nCl : Int32) (nLn : Int32) (nTh : Int32) (mKi : Nat → Int32) (mOn : Nat → Int32) (mOt : Nat → Int32) (mWh : Nat → Int32) (mKt : Nat → Int32) (p1 : Int32) : jX8_canTell_112_0 nSt nIl nBa nGa nNs nLi nMi nNx nMv nOn nLa nCl nLn nTh mKi mOn mOt mWh mKt p1 = 0 ∨ jX8_canTell_112_0 nSt nIl nBa nGa nNs nLi nMi nNx nMv nOn nLa nCl nLn nTh mKi mOn mOt mWh mKt p1 = 1 := by
  unfold jX8_canTell_112_0
  repeat' split
  all_goals first | exact Or.inl rfl | exact Or.inr rfl
def rX8_canTell (nSt : Int32) (nIl : Int32) (nBa : Int32) (nGa : Int32) (nNs : Int32) (nLi : Int32) (nMi : Int32) (nNx : Int32) (nMv : Int32) (nOn : Int32) (nLa : Int32) (nCl : Int32) (nLn : Int32) (nTh : Int32) (mKi : Nat → Int32) (mOn : Nat → Int32) (mOt : Nat → Int32) (mWh : Nat → Int32) (mKt : Nat → Int32) (p1 : Int32) : Int32 := (jX8_canTell_112_0 nSt nIl nBa nGa nNs nLi nMi nNx nMv nOn nLa nCl nLn nTh mKi mOn mOt mWh mKt p1)
def oX8_canTell_mKt (nSt : Int32) (nIl : Int32) (nBa : Int32) (nGa : Int32) (nNs : Int32) (nLi : Int32) (nMi : Int32) (nNx : Int32) (nMv : Int32) (nOn : Int32) (nLa : Int32) (nCl : Int32) (nLn : Int32) (nTh : Int32) (mKi : Nat → Int32) (mOn : Nat → Int32) (mOt : Nat → Int32) (mWh : Nat → Int32) (mKt : Nat → Int32) (p1 : Int32) : Nat → Int32 := (upd mKt ((mWh (p1).toNatClampNeg)).toNatClampNeg ((mKt ((mWh (p1).toNatClampNeg)).toNatClampNeg) ||| (((1 : Int32) <<< ((mOn (p1).toNatClampNeg) &&& 31)) ||| ((1 : Int32) <<< ((mOt (p1).toNatClampNeg) &&& 31)))))
set_option maxRecDepth 20000 in
theorem iX8_canTell_X8 : ∀ w ∈ u_ws RX8 TX8 29, w ∈ wsX8_canTell := by decide +kernel
set_option maxRecDepth 20000 in
theorem kX8_canTell_1 : Cond.fieldLink RX8 25 "MaskHallModel" "what" "[I" ∈ wsX8_canTell := by decide +kernel
set_option maxRecDepth 20000 in
theorem kX8_canTell_2 : Cond.fieldLink RX8 99 "MaskHallModel" "bans" "I" ∈ wsX8_canTell := by decide +kernel
set_option maxRecDepth 20000 in
theorem kX8_canTell_3 : Cond.fieldLink RX8 53 "MaskHallModel" "knownThen" "[I" ∈ wsX8_canTell := by decide +kernel
set_option maxRecDepth 20000 in
theorem kX8_canTell_4 : Cond.fieldLink RX8 93 "MaskHallModel" "ills" "I" ∈ wsX8_canTell := by decide +kernel
set_option maxRecDepth 20000 in
theorem kX8_canTell_5 : Cond.fieldLink RX8 19 "MaskHallModel" "one" "[I" ∈ wsX8_canTell := by decide +kernel
set_option maxRecDepth 20000 in
theorem kX8_canTell_6 : Cond.fieldLink RX8 22 "MaskHallModel" "other" "[I" ∈ wsX8_canTell := by decide +kernel
set_option maxHeartbeats 2080000 in
set_option maxRecDepth 100000 in
theorem c_X8_canTell (l : Launch) (dC : Nat → ClassId) (dI : Nat → Nat → Nat) (cI cJ : ClassId) (w0 aKi aOn aOt aWh aKt aFk aFh aLe aWi aPr aPl aPt aKn aHa aHt : Nat) (sz : Nat) (nSt : Int32) (nIl : Int32) (nBa : Int32) (nGa : Int32) (nNs : Int32) (nLi : Int32) (nMi : Int32) (nNx : Int32) (nMv : Int32) (nOn : Int32) (nLa : Int32) (nCl : Int32) (nLn : Int32) (nTh : Int32) (mKi : Nat → Int32) (mOn : Nat → Int32) (mOt : Nat → Int32) (mWh : Nat → Int32) (mKt : Nat → Int32) (p1 : Int32) (hst0 : 0 ≤ nSt.toInt) (hst : nSt.toInt ≤ 12) (hin1 : vp_in p1 12) (hwh : vp_in (mWh (p1).toNatClampNeg) 4) : Met l yX8_canTell wsX8_canTell ({ frames := 1, cells := 0, slots := 0, locals := 25 }) (va_Pc [.ref w0, .int p1] (zI (dC, dI) [(cI, .int), (cJ, .long)] [(w0, .inr (8, [.ref aFk, .ref aFh, .int nSt, .ref aKi, .ref aOn, .ref aOt, .ref aWh, .int nIl, .int nBa, .int nGa, .ref aLe, .ref aWi, .ref aPr, .ref aPl, .ref aPt, .int nNs, .int nLi, .int nMi, .int nNx, .int nMv, .int nOn, .ref aKn, .ref aHa, .int nLa, .int nCl, .int nLn, .ref aKt, .ref aHt, .int nTh])), (aKi, .inl (cI, 12, .inl mKi)), (aOn, .inl (cI, 12, .inl mOn)), (aOt, .inl (cI, 12, .inl mOt)), (aWh, .inl (cI, 12, .inl mWh)), (aKt, .inl (cI, 4, .inl mKt))] sz)) (va_Qi (fun (r : Int32) (u : (Nat → Int32)) => r = rX8_canTell nSt nIl nBa nGa nNs nLi nMi nNx nMv nOn nLa nCl nLn nTh mKi mOn mOt mWh mKt p1 ∧ u = oX8_canTell_mKt nSt nIl nBa nGa nNs nLi nMi nNx nMv nOn nLa nCl nLn nTh mKi mOn mOt mWh mKt p1) (fun u => zO (dC, dI) [(cI, .int), (cJ, .long)] [(w0, .inr (8, [.ref aFk, .ref aFh, .int nSt, .ref aKi, .ref aOn, .ref aOt, .ref aWh, .int nIl, .int nBa, .int nGa, .ref aLe, .ref aWi, .ref aPr, .ref aPl, .ref aPt, .int nNs, .int nLi, .int nMi, .int nNx, .int nMv, .int nOn, .ref aKn, .ref aHa, .int nLa, .int nCl, .int nLn, .ref aKt, .ref aHt, .int nTh])), (aKi, .inl (cI, 12, .inl mKi)), (aOn, .inl (cI, 12, .inl mOn)), (aOt, .inl (cI, 12, .inl mOt)), (aWh, .inl (cI, 12, .inl mWh)), (aKt, .inl (cI, 4, .inl u))] (va_A [(w0, .inr (8, [.ref aFk, .ref aFh, .int nSt, .ref aKi, .ref aOn, .ref aOt, .ref aWh, .int nIl, .int nBa, .int nGa, .ref aLe, .ref aWi, .ref aPr, .ref aPl, .ref aPt, .int nNs, .int nLi, .int nMi, .int nNx, .int nMv, .int nOn, .ref aKn, .ref aHa, .int nLa, .int nCl, .int nLn, .ref aKt, .ref aHt, .int nTh])), (aKi, .inl (cI, 12, .inl mKi)), (aOn, .inl (cI, 12, .inl mOn)), (aOt, .inl (cI, 12, .inl mOt)), (aWh, .inl (cI, 12, .inl mWh)), (aKt, .inl (cI, 4, .inl mKt))] sz)) (va_A [(w0, .inr (8, [.ref aFk, .ref aFh, .int nSt, .ref aKi, .ref aOn, .ref aOt, .ref aWh, .int nIl, .int nBa, .int nGa, .ref aLe, .ref aWi, .ref aPr, .ref aPl, .ref aPt, .int nNs, .int nLi, .int nMi, .int nNx, .int nMv, .int nOn, .ref aKn, .ref aHa, .int nLa, .int nCl, .int nLn, .ref aKt, .ref aHt, .int nTh])), (aKi, .inl (cI, 12, .inl mKi)), (aOn, .inl (cI, 12, .inl mOn)), (aOt, .inl (cI, 12, .inl mOt)), (aWh, .inl (cI, 12, .inl mWh)), (aKt, .inl (cI, 4, .inl mKt))] sz)) 0 0 (va_A [(w0, .inr (8, [.ref aFk, .ref aFh, .int nSt, .ref aKi, .ref aOn, .ref aOt, .ref aWh, .int nIl, .int nBa, .int nGa, .ref aLe, .ref aWi, .ref aPr, .ref aPl, .ref aPt, .int nNs, .int nLi, .int nMi, .int nNx, .int nMv, .int nOn, .ref aKn, .ref aHa, .int nLa, .int nCl, .int nLn, .ref aKt, .ref aHt, .int nTh])), (aKi, .inl (cI, 12, .inl mKi)), (aOn, .inl (cI, 12, .inl mOn)), (aOt, .inl (cI, 12, .inl mOt)), (aWh, .inl (cI, 12, .inl mWh)), (aKt, .inl (cI, 4, .inl mKt))] sz) := by
  refine Met.ofW (cc := cX8_canTell) (maxL := 5) (ret := (some .boolean)) (by decide) rfl ?_
  intro p e s m args below meth c s₁ B hml hv
  obtain ⟨rfl, hsz, hP, hK, hD0, hG⟩ := hv
  have hx := B.exec
  have hb := B.bytes
  have hr := B.returns
  have hts := atoms_spec (ws := wsX8_canTell) B.pre
  have hown : s.vm.findClass RX8 = some m.cls := findClass_of_methodNamed B.named
  have hlocks := B.notSynchronized
  subst hsz
  have hD := hD0.self (sz := s.heap.size)
  generalize hAe : va_A [(w0, .inr (8, [.ref aFk, .ref aFh, .int nSt, .ref aKi, .ref aOn, .ref aOt, .ref aWh, .int nIl, .int nBa, .int nGa, .ref aLe, .ref aWi, .ref aPr, .ref aPl, .ref aPt, .int nNs, .int nLi, .int nMi, .int nNx, .int nMv, .int nOn, .ref aKn, .ref aHa, .int nLa, .int nCl, .int nLn, .ref aKt, .ref aHt, .int nTh])), (aKi, .inl (cI, 12, .inl mKi)), (aOn, .inl (cI, 12, .inl mOn)), (aOt, .inl (cI, 12, .inl mOt)), (aWh, .inl (cI, 12, .inl mWh)), (aKt, .inl (cI, 4, .inl mKt))] s.heap.size = A at hD hG ⊢
  have hA : ∀ q : Nat, s.heap.size ≤ q → A q := fun q h => by rw [← hAe]; exact Or.inr h
  have hS : va_S A s.heap s.heap [] := va_S.rf
  have hP : va_P (dC, dI) vwCl [(w0, .inr (8, [.ref aFk, .ref aFh, .int nSt, .ref aKi, .ref aOn, .ref aOt, .ref aWh, .int nIl, .int nBa, .int nGa, .ref aLe, .ref aWi, .ref aPr, .ref aPl, .ref aPt, .int nNs, .int nLi, .int nMi, .int nNx, .int nMv, .int nOn, .ref aKn, .ref aHa, .int nLa, .int nCl, .int nLn, .ref aKt, .ref aHt, .int nTh])), (aKi, .inl (cI, 12, .inl mKi)), (aOn, .inl (cI, 12, .inl mOn)), (aOt, .inl (cI, 12, .inl mOt)), (aWh, .inl (cI, 12, .inl mWh)), (aKt, .inl (cI, 4, .inl mKt))] s.heap := hP
  have hl := lv_entry ([.ref w0, .int p1]) (n := 5) (Nat.le_of_ble_eq_true rfl)
  rw [lg_entry_eq]
  generalize (lg_sl ([.ref w0, .int p1]) ++ List.replicate (5 - (lg_sl ([.ref w0, .int p1])).length) Slot.unset).toArray = ls at hl ⊢
  have hl : lv_has ls 5 [(0, .ref w0), (1, .int p1)] := hl
  refine lv_aload_n hx hb dX8_canTell_0 rfl (lv_at hl 0 rfl) ?_
  refine va_get (D := (dC, dI)) (ci := 8) (v := .ref aWh) (C := RX8) (T := TX8) (N := 29) hx hb hts iX8_canTell_X8 hown hK hP 0 rfl rfl 6 (by decide) (hts _ kX8_canTell_1) (fun _ h9 => h9) rfl dX8_canTell_1 ?_
  refine lv_iload_n hx hb dX8_canTell_4 rfl (lv_at hl 1 rfl) ?_
  refine va_iald hx hb hK hP 4 0 rfl rfl (i := p1) hin1 dX8_canTell_5 ?_
  refine lv_istore_n (lv' := [(2, .int (mWh (p1).toNatClampNeg)), (0, .ref w0), (1, .int p1)]) hx hb dX8_canTell_6 rfl hl (by decide) rfl (fun ls hl => ?_)
  refine lv_aload_n hx hb dX8_canTell_7 rfl (lv_at hl 1 rfl) ?_
  refine va_get (D := (dC, dI)) (ci := 8) (v := .int nBa) (C := RX8) (T := TX8) (N := 29) hx hb hts iX8_canTell_X8 hown hK hP 0 rfl rfl 8 (by decide) (hts _ kX8_canTell_2) (fun _ h9 => h9) rfl dX8_canTell_8 ?_
  refine lv_iload_n hx hb dX8_canTell_11 rfl (lv_at hl 0 rfl) ?_
  refine zcSi (va_runS (As := [.int nBa, .int (mWh (p1).toNatClampNeg)]) (rest := []) ⟨hx, hb, hml, hown, hts⟩ (c_X8_holds l dC dI cI cJ s.heap.size nBa (mWh (p1).toNatClampNeg) ) (va_cwS 2 hts gX8_canTell_X8_holds rfl rfl rfl (by decide +kernel) ⟨Nat.le_of_ble_eq_true rfl, Nat.le_of_ble_eq_true rfl⟩) (zpS hK hP hD hS hA hG [] (by decide) rfl) rfl rfl hl.1 rfl (lv_room (Nat.le_of_ble_eq_true rfl)) dX8_canTell_12 ⟨Nat.le_of_ble_eq_true rfl, Nat.le_of_ble_eq_true rfl⟩) ?_
  refine zNm (fun R9 Q9 hR9 hQ9 => ?_)
  have J41 : ∀ (v41_0 : Int32), v41_0 = (jX8_canTell_41_0 nSt nIl nBa nGa nNs nLi nMi nNx nMv nOn nLa nCl nLn nTh mKi mOn mOt mWh mKt p1) → ∀ (ls : Array Slot), lv_has ls 5 [(2, .int (mWh (p1).toNatClampNeg)), (0, .ref w0), (1, .int p1)] → W p l e R9 s m ([.ref w0, .int p1] : List Value).toArray below meth c s.heap [] 0 0 Q9 (F0 m 41 ls [.int v41_0]) := by
    subst hR9; subst hQ9
    intro v41_0 hvv41_0
    rw [hvv41_0]; clear hvv41_0 v41_0
    intro ls hl
    refine lv_istore_n (lv' := [(3, .int (jX8_canTell_41_0 nSt nIl nBa nGa nNs nLi nMi nNx nMv nOn nLa nCl nLn nTh mKi mOn mOt mWh mKt p1)), (2, .int (mWh (p1).toNatClampNeg)), (0, .ref w0), (1, .int p1)]) hx hb dX8_canTell_41 rfl hl (by decide) rfl (fun ls hl => ?_)
    refine lv_aload_n hx hb dX8_canTell_42 rfl (lv_at hl 2 rfl) ?_
    refine va_get (D := (dC, dI)) (ci := 8) (v := .ref aKt) (C := RX8) (T := TX8) (N := 29) hx hb hts iX8_canTell_X8 hown hK hP 0 rfl rfl 26 (by decide) (hts _ kX8_canTell_3) (fun _ h9 => h9) rfl dX8_canTell_43 ?_
    refine lv_iload_n hx hb dX8_canTell_46 rfl (lv_at hl 1 rfl) ?_
    refine va_iald hx hb hK hP 5 0 rfl rfl (i := (mWh (p1).toNatClampNeg)) hwh dX8_canTell_47 ?_
    refine lv_aload_n hx hb dX8_canTell_48 rfl (lv_at hl 2 rfl) ?_
    refine va_get (D := (dC, dI)) (ci := 8) (v := .int nIl) (C := RX8) (T := TX8) (N := 29) hx hb hts iX8_canTell_X8 hown hK hP 0 rfl rfl 7 (by decide) (hts _ kX8_canTell_4) (fun _ h9 => h9) rfl dX8_canTell_49 ?_
    refine lv_iconst (v := -1) hx hb dX8_canTell_52 (by decide) ?_
    refine lv_ixor hx hb dX8_canTell_53 ?_
    refine lv_iand hx hb dX8_canTell_54 ?_
    refine zNm (fun R9 Q9 hR9 hQ9 => ?_)
    have J78 : ∀ (v78_0 : Int32), v78_0 = (jX8_canTell_78_0 nSt nIl nBa nGa nNs nLi nMi nNx nMv nOn nLa nCl nLn nTh mKi mOn mOt mWh mKt p1) → ∀ (ls : Array Slot), lv_has ls 5 [(3, .int (jX8_canTell_41_0 nSt nIl nBa nGa nNs nLi nMi nNx nMv nOn nLa nCl nLn nTh mKi mOn mOt mWh mKt p1)), (2, .int (mWh (p1).toNatClampNeg)), (0, .ref w0), (1, .int p1)] → W p l e R9 s m ([.ref w0, .int p1] : List Value).toArray below meth c s.heap [] 0 0 Q9 (F0 m 78 ls [.int v78_0]) := by
      subst hR9; subst hQ9
      intro v78_0 hvv78_0
      rw [hvv78_0]; clear hvv78_0 v78_0
      intro ls hl
      refine lv_istore (lv' := [(4, .int (jX8_canTell_78_0 nSt nIl nBa nGa nNs nLi nMi nNx nMv nOn nLa nCl nLn nTh mKi mOn mOt mWh mKt p1)), (3, .int (jX8_canTell_41_0 nSt nIl nBa nGa nNs nLi nMi nNx nMv nOn nLa nCl nLn nTh mKi mOn mOt mWh mKt p1)), (2, .int (mWh (p1).toNatClampNeg)), (0, .ref w0), (1, .int p1)]) hx hb dX8_canTell_78 hl (by decide) rfl (fun ls hl => ?_)
      refine lv_iload_n hx hb dX8_canTell_80 rfl (lv_at hl 1 rfl) ?_
      refine zNm (fun R9 Q9 hR9 hQ9 => ?_)
      have J112 : ∀ (v112_0 : Int32), v112_0 = (jX8_canTell_112_0 nSt nIl nBa nGa nNs nLi nMi nNx nMv nOn nLa nCl nLn nTh mKi mOn mOt mWh mKt p1) → ∀ (ls : Array Slot), lv_has ls 5 [(4, .int (jX8_canTell_78_0 nSt nIl nBa nGa nNs nLi nMi nNx nMv nOn nLa nCl nLn nTh mKi mOn mOt mWh mKt p1)), (3, .int (jX8_canTell_41_0 nSt nIl nBa nGa nNs nLi nMi nNx nMv nOn nLa nCl nLn nTh mKi mOn mOt mWh mKt p1)), (2, .int (mWh (p1).toNatClampNeg)), (0, .ref w0), (1, .int p1)] → W p l e R9 s m ([.ref w0, .int p1] : List Value).toArray below meth c s.heap [] 0 0 Q9 (F0 m 112 ls [.int v112_0]) := by
        subst hR9; subst hQ9
        intro v112_0 hvv112_0
        rw [hvv112_0]; clear hvv112_0 v112_0
        intro ls hl
        refine lv_istore_n (lv' := [(3, .int (jX8_canTell_112_0 nSt nIl nBa nGa nNs nLi nMi nNx nMv nOn nLa nCl nLn nTh mKi mOn mOt mWh mKt p1)), (4, .int (jX8_canTell_78_0 nSt nIl nBa nGa nNs nLi nMi nNx nMv nOn nLa nCl nLn nTh mKi mOn mOt mWh mKt p1)), (2, .int (mWh (p1).toNatClampNeg)), (0, .ref w0), (1, .int p1)]) hx hb dX8_canTell_112 rfl hl (by decide) rfl (fun ls hl => ?_)
        refine lv_aload_n hx hb dX8_canTell_113 rfl (lv_at hl 3 rfl) ?_
        refine va_get (D := (dC, dI)) (ci := 8) (v := .ref aKt) (C := RX8) (T := TX8) (N := 29) hx hb hts iX8_canTell_X8 hown hK hP 0 rfl rfl 26 (by decide) (hts _ kX8_canTell_3) (fun _ h9 => h9) rfl dX8_canTell_114 ?_
        refine lv_iload_n hx hb dX8_canTell_117 rfl (lv_at hl 2 rfl) ?_
        refine lv_dup2_11 hx hb dX8_canTell_118 rfl rfl ?_
        refine va_iald hx hb hK hP 5 0 rfl rfl (i := (mWh (p1).toNatClampNeg)) hwh dX8_canTell_119 ?_
        refine lv_iconst (v := 1) hx hb dX8_canTell_120 (by decide) ?_
        refine lv_aload_n hx hb dX8_canTell_121 rfl (lv_at hl 3 rfl) ?_
        refine va_get (D := (dC, dI)) (ci := 8) (v := .ref aOn) (C := RX8) (T := TX8) (N := 29) hx hb hts iX8_canTell_X8 hown hK hP 0 rfl rfl 4 (by decide) (hts _ kX8_canTell_5) (fun _ h9 => h9) rfl dX8_canTell_122 ?_
        refine lv_iload_n hx hb dX8_canTell_125 rfl (lv_at hl 4 rfl) ?_
        refine va_iald hx hb hK hP 2 0 rfl rfl (i := p1) hin1 dX8_canTell_126 ?_
        refine lv_ishl hx hb dX8_canTell_127 ?_
        refine lv_iconst (v := 1) hx hb dX8_canTell_128 (by decide) ?_
        refine lv_aload_n hx hb dX8_canTell_129 rfl (lv_at hl 3 rfl) ?_
        refine va_get (D := (dC, dI)) (ci := 8) (v := .ref aOt) (C := RX8) (T := TX8) (N := 29) hx hb hts iX8_canTell_X8 hown hK hP 0 rfl rfl 5 (by decide) (hts _ kX8_canTell_6) (fun _ h9 => h9) rfl dX8_canTell_130 ?_
        refine lv_iload_n hx hb dX8_canTell_133 rfl (lv_at hl 4 rfl) ?_
        refine va_iald hx hb hK hP 3 0 rfl rfl (i := p1) hin1 dX8_canTell_134 ?_
        refine lv_ishl hx hb dX8_canTell_135 ?_
        refine lv_ior hx hb dX8_canTell_136 ?_
        refine lv_ior hx hb dX8_canTell_137 ?_
        refine va_iast hx hb hK hP hD hS 5 0 rfl rfl (i := (mWh (p1).toNatClampNeg)) (x := ((mKt ((mWh (p1).toNatClampNeg)).toNatClampNeg) ||| (((1 : Int32) <<< ((mOn (p1).toNatClampNeg) &&& 31)) ||| ((1 : Int32) <<< ((mOt (p1).toNatClampNeg) &&& 31))))) hwh dX8_canTell_138 (fun H locs hP hD hS => ?_)
        have hP : va_P (dC, dI) vwCl [(w0, .inr (8, [.ref aFk, .ref aFh, .int nSt, .ref aKi, .ref aOn, .ref aOt, .ref aWh, .int nIl, .int nBa, .int nGa, .ref aLe, .ref aWi, .ref aPr, .ref aPl, .ref aPt, .int nNs, .int nLi, .int nMi, .int nNx, .int nMv, .int nOn, .ref aKn, .ref aHa, .int nLa, .int nCl, .int nLn, .ref aKt, .ref aHt, .int nTh])), (aKi, .inl (cI, 12, .inl mKi)), (aOn, .inl (cI, 12, .inl mOn)), (aOt, .inl (cI, 12, .inl mOt)), (aWh, .inl (cI, 12, .inl mWh)), (aKt, .inl (cI, 4, .inl (upd mKt ((mWh (p1).toNatClampNeg)).toNatClampNeg ((mKt ((mWh (p1).toNatClampNeg)).toNatClampNeg) ||| (((1 : Int32) <<< ((mOn (p1).toNatClampNeg) &&& 31)) ||| ((1 : Int32) <<< ((mOt (p1).toNatClampNeg) &&& 31)))))))] H := hP
        have hD : va_D A [(w0, .inr (8, [.ref aFk, .ref aFh, .int nSt, .ref aKi, .ref aOn, .ref aOt, .ref aWh, .int nIl, .int nBa, .int nGa, .ref aLe, .ref aWi, .ref aPr, .ref aPl, .ref aPt, .int nNs, .int nLi, .int nMi, .int nNx, .int nMv, .int nOn, .ref aKn, .ref aHa, .int nLa, .int nCl, .int nLn, .ref aKt, .ref aHt, .int nTh])), (aKi, .inl (cI, 12, .inl mKi)), (aOn, .inl (cI, 12, .inl mOn)), (aOt, .inl (cI, 12, .inl mOt)), (aWh, .inl (cI, 12, .inl mWh)), (aKt, .inl (cI, 4, .inl (upd mKt ((mWh (p1).toNatClampNeg)).toNatClampNeg ((mKt ((mWh (p1).toNatClampNeg)).toNatClampNeg) ||| (((1 : Int32) <<< ((mOn (p1).toNatClampNeg) &&& 31)) ||| ((1 : Int32) <<< ((mOt (p1).toNatClampNeg) &&& 31)))))))] := hD
        refine lv_iload_n hx hb dX8_canTell_139 rfl (lv_at hl 0 rfl) ?_
        exact W.zret (v := (jX8_canTell_112_0 nSt nIl nBa nGa nNs nLi nMi nNx nMv nOn nLa nCl nLn nTh mKi mOn mOt mWh mKt p1)) hx hb hr (zNar (bjX8_canTell_112_0 nSt nIl nBa nGa nNs nLi nMi nNx nMv nOn nLa nCl nLn nTh mKi mOn mOt mWh mKt p1)) (fun t ht hW => ⟨⟨(jX8_canTell_112_0 nSt nIl nBa nGa nNs nLi nMi nNx nMv nOn nLa nCl nLn nTh mKi mOn mOt mWh mKt p1), ((upd mKt ((mWh (p1).toNatClampNeg)).toNatClampNeg ((mKt ((mWh (p1).toNatClampNeg)).toNatClampNeg) ||| (((1 : Int32) <<< ((mOn (p1).toNatClampNeg) &&& 31)) ||| ((1 : Int32) <<< ((mOt (p1).toNatClampNeg) &&& 31)))))), rfl, ⟨(by unfold rX8_canTell; rfl), (by unfold oX8_canTell_mKt; rfl)⟩, (by (try dsimp only); rw [ht]; exact hP.sub [0, 1, 2, 3, 4, 5] rfl), va_K.moved hW.alike hK, (by (try dsimp only); exact hD.sub [0, 1, 2, 3, 4, 5] (by decide) rfl)⟩, hS.F ht⟩) hS.2.2 dX8_canTell_140
      subst hR9; subst hQ9
      refine lv_if_eq (tgt := 111) hx hb dX8_canTell_81 (by decide) (fun c_1 => ?_) (fun c_1 => ?_)
      · refine lv_iconst (v := 0) hx hb dX8_canTell_111 (by decide) ?_
        exact J112 (0 : Int32) (by unfold jX8_canTell_112_0; rw [if_pos c_1]) _ (lv_sub hl [0, 1, 2, 3, 4] rfl)
      · refine lv_aload_n hx hb dX8_canTell_84 rfl (lv_at hl 3 rfl) ?_
        refine va_get (D := (dC, dI)) (ci := 8) (v := .ref aKt) (C := RX8) (T := TX8) (N := 29) hx hb hts iX8_canTell_X8 hown hK hP 0 rfl rfl 26 (by decide) (hts _ kX8_canTell_3) (fun _ h9 => h9) rfl dX8_canTell_85 ?_
        refine lv_iload_n hx hb dX8_canTell_88 rfl (lv_at hl 2 rfl) ?_
        refine va_iald hx hb hK hP 5 0 rfl rfl (i := (mWh (p1).toNatClampNeg)) hwh dX8_canTell_89 ?_
        refine lv_aload_n hx hb dX8_canTell_90 rfl (lv_at hl 3 rfl) ?_
        refine va_get (D := (dC, dI)) (ci := 8) (v := .ref aOn) (C := RX8) (T := TX8) (N := 29) hx hb hts iX8_canTell_X8 hown hK hP 0 rfl rfl 4 (by decide) (hts _ kX8_canTell_5) (fun _ h9 => h9) rfl dX8_canTell_91 ?_
        refine lv_iload_n hx hb dX8_canTell_94 rfl (lv_at hl 4 rfl) ?_
        refine va_iald hx hb hK hP 2 0 rfl rfl (i := p1) hin1 dX8_canTell_95 ?_
        refine zcSi (va_runS (As := [.int (mKt ((mWh (p1).toNatClampNeg)).toNatClampNeg), .int (mOn (p1).toNatClampNeg)]) (rest := []) ⟨hx, hb, hml, hown, hts⟩ (c_X8_holds l dC dI cI cJ s.heap.size (mKt ((mWh (p1).toNatClampNeg)).toNatClampNeg) (mOn (p1).toNatClampNeg) ) (va_cwS 2 hts gX8_canTell_X8_holds rfl rfl rfl (by decide +kernel) ⟨Nat.le_of_ble_eq_true rfl, Nat.le_of_ble_eq_true rfl⟩) (zpS hK hP hD hS hA hG [] (by decide) rfl) rfl rfl hl.1 rfl (lv_room (Nat.le_of_ble_eq_true rfl)) dX8_canTell_96 ⟨Nat.le_of_ble_eq_true rfl, Nat.le_of_ble_eq_true rfl⟩) ?_
        refine lv_if_ne (tgt := 107) hx hb dX8_canTell_99 (by decide) (fun c_2 => ?_) (fun c_2 => ?_)
        · refine lv_iconst (v := 1) hx hb dX8_canTell_107 (by decide) ?_
          refine lv_goto (tgt := 112) hx hb dX8_canTell_108 (by decide) ?_
          exact J112 (1 : Int32) (by unfold jX8_canTell_112_0; rw [if_neg c_1, if_neg c_2]) _ (lv_sub hl [0, 1, 2, 3, 4] rfl)
        · refine lv_iload hx hb dX8_canTell_102 (lv_at hl 0 rfl) ?_
          refine lv_if_eq (tgt := 111) hx hb dX8_canTell_104 (by decide) (fun c_3 => ?_) (fun c_3 => ?_)
          · refine lv_iconst (v := 0) hx hb dX8_canTell_111 (by decide) ?_
            exact J112 (0 : Int32) (by unfold jX8_canTell_112_0; rw [if_neg c_1, if_pos c_2, if_pos c_3]) _ (lv_sub hl [0, 1, 2, 3, 4] rfl)
          · refine lv_iconst (v := 1) hx hb dX8_canTell_107 (by decide) ?_
            refine lv_goto (tgt := 112) hx hb dX8_canTell_108 (by decide) ?_
            exact J112 (1 : Int32) (by unfold jX8_canTell_112_0; rw [if_neg c_1, if_pos c_2, if_neg c_3]) _ (lv_sub hl [0, 1, 2, 3, 4] rfl)
    subst hR9; subst hQ9
    refine lv_if_eq (tgt := 77) hx hb dX8_canTell_55 (by decide) (fun c_4 => ?_) (fun c_4 => ?_)
    · refine lv_iconst (v := 0) hx hb dX8_canTell_77 (by decide) ?_
      exact J78 (0 : Int32) (by unfold jX8_canTell_78_0; rw [if_pos c_4]) _ (lv_sub hl [0, 1, 2, 3] rfl)
    · refine lv_aload_n hx hb dX8_canTell_58 rfl (lv_at hl 2 rfl) ?_
      refine lv_iload_n hx hb dX8_canTell_59 rfl (lv_at hl 3 rfl) ?_
      refine lv_aload_n hx hb dX8_canTell_60 rfl (lv_at hl 2 rfl) ?_
      refine va_get (D := (dC, dI)) (ci := 8) (v := .ref aOn) (C := RX8) (T := TX8) (N := 29) hx hb hts iX8_canTell_X8 hown hK hP 0 rfl rfl 4 (by decide) (hts _ kX8_canTell_5) (fun _ h9 => h9) rfl dX8_canTell_61 ?_
      refine lv_iload_n hx hb dX8_canTell_64 rfl (lv_at hl 3 rfl) ?_
      refine va_iald hx hb hK hP 2 0 rfl rfl (i := p1) hin1 dX8_canTell_65 ?_
      refine lv_iload_n hx hb dX8_canTell_66 rfl (lv_at hl 1 rfl) ?_
      refine zcSi (va_runV (As := [.int p1, .int (mOn (p1).toNatClampNeg), .int (mWh (p1).toNatClampNeg)]) (rest := []) ⟨hx, hb, hml, hown, hts⟩ (c_X8_isToldBehind l dC dI cI cJ w0 aKi aOt aWh aFk aFh aOn aLe aWi aPr aPl aPt aKn aHa aKt aHt s.heap.size nSt nIl nBa nGa nNs nLi nMi nNx nMv nOn nLa nCl nLn nTh mKi mOt mWh p1 (mOn (p1).toNatClampNeg) (mWh (p1).toNatClampNeg) (by assumption) (by assumption) (zSuc hin1)) (cwV 3 hts gX8_canTell_X8_isToldBehind rfl rfl rfl (by decide +kernel) ⟨Nat.le_of_ble_eq_true rfl, Nat.le_of_ble_eq_true rfl⟩) (zpV hK hP hD hS hA hG [0, 1, 3, 4] (by decide) rfl 8 0 rfl rfl) rfl rfl hl.1 rfl (lv_room (Nat.le_of_ble_eq_true rfl)) dX8_canTell_67 ⟨Nat.le_of_ble_eq_true rfl, Nat.le_of_ble_eq_true rfl⟩) ?_
      refine lv_if_ne (tgt := 77) hx hb dX8_canTell_70 (by decide) (fun c_5 => ?_) (fun c_5 => ?_)
      · refine lv_iconst (v := 0) hx hb dX8_canTell_77 (by decide) ?_
        exact J78 (0 : Int32) (by unfold jX8_canTell_78_0; rw [if_neg c_4, if_neg c_5]) _ (lv_sub hl [0, 1, 2, 3] rfl)
      · refine lv_iconst (v := 1) hx hb dX8_canTell_73 (by decide) ?_
        refine lv_goto (tgt := 78) hx hb dX8_canTell_74 (by decide) ?_
        exact J78 (1 : Int32) (by unfold jX8_canTell_78_0; rw [if_neg c_4, if_pos c_5]) _ (lv_sub hl [0, 1, 2, 3] rfl)
  subst hR9; subst hQ9
  refine lv_if_ne (tgt := 40) hx hb dX8_canTell_15 (by decide) (fun c_6 => ?_) (fun c_6 => ?_)
  · refine lv_iconst (v := 0) hx hb dX8_canTell_40 (by decide) ?_
    exact J41 (0 : Int32) (by unfold jX8_canTell_41_0; rw [if_neg c_6]) _ (lv_sub hl [0, 1, 2] rfl)
  · refine lv_aload_n hx hb dX8_canTell_18 rfl (lv_at hl 1 rfl) ?_
    refine va_get (D := (dC, dI)) (ci := 8) (v := .ref aKt) (C := RX8) (T := TX8) (N := 29) hx hb hts iX8_canTell_X8 hown hK hP 0 rfl rfl 26 (by decide) (hts _ kX8_canTell_3) (fun _ h9 => h9) rfl dX8_canTell_19 ?_
    refine lv_iload_n hx hb dX8_canTell_22 rfl (lv_at hl 0 rfl) ?_
    refine va_iald hx hb hK hP 5 0 rfl rfl (i := (mWh (p1).toNatClampNeg)) hwh dX8_canTell_23 ?_
    refine lv_aload_n hx hb dX8_canTell_24 rfl (lv_at hl 1 rfl) ?_
    refine va_get (D := (dC, dI)) (ci := 8) (v := .ref aOt) (C := RX8) (T := TX8) (N := 29) hx hb hts iX8_canTell_X8 hown hK hP 0 rfl rfl 5 (by decide) (hts _ kX8_canTell_6) (fun _ h9 => h9) rfl dX8_canTell_25 ?_
    refine lv_iload_n hx hb dX8_canTell_28 rfl (lv_at hl 2 rfl) ?_
    refine va_iald hx hb hK hP 3 0 rfl rfl (i := p1) hin1 dX8_canTell_29 ?_
    refine zcSi (va_runS (As := [.int (mKt ((mWh (p1).toNatClampNeg)).toNatClampNeg), .int (mOt (p1).toNatClampNeg)]) (rest := []) ⟨hx, hb, hml, hown, hts⟩ (c_X8_holds l dC dI cI cJ s.heap.size (mKt ((mWh (p1).toNatClampNeg)).toNatClampNeg) (mOt (p1).toNatClampNeg) ) (va_cwS 2 hts gX8_canTell_X8_holds rfl rfl rfl (by decide +kernel) ⟨Nat.le_of_ble_eq_true rfl, Nat.le_of_ble_eq_true rfl⟩) (zpS hK hP hD hS hA hG [] (by decide) rfl) rfl rfl hl.1 rfl (lv_room (Nat.le_of_ble_eq_true rfl)) dX8_canTell_30 ⟨Nat.le_of_ble_eq_true rfl, Nat.le_of_ble_eq_true rfl⟩) ?_
    refine lv_if_ne (tgt := 40) hx hb dX8_canTell_33 (by decide) (fun c_7 => ?_) (fun c_7 => ?_)
    · refine lv_iconst (v := 0) hx hb dX8_canTell_40 (by decide) ?_
      exact J41 (0 : Int32) (by unfold jX8_canTell_41_0; rw [if_pos c_6, if_neg c_7]) _ (lv_sub hl [0, 1, 2] rfl)
    · refine lv_iconst (v := 1) hx hb dX8_canTell_36 (by decide) ?_
      refine lv_goto (tgt := 41) hx hb dX8_canTell_37 (by decide) ?_
      exact J41 (1 : Int32) (by unfold jX8_canTell_41_0; rw [if_pos c_6, if_pos c_7]) _ (lv_sub hl [0, 1, 2] rfl)
theorem brX8_canTell (nSt : Int32) (nIl : Int32) (nBa : Int32) (nGa : Int32) (nNs : Int32) (nLi : Int32) (nMi : Int32) (nNx : Int32) (nMv : Int32) (nOn : Int32) (nLa : Int32) (nCl : Int32) (nLn : Int32) (nTh : Int32) (mKi : Nat → Int32) (mOn : Nat → Int32) (mOt : Nat → Int32) (mWh : Nat → Int32) (mKt : Nat → Int32) (p1 : Int32) : rX8_canTell nSt nIl nBa nGa nNs nLi nMi nNx nMv nOn nLa nCl nLn nTh mKi mOn mOt mWh mKt p1 = 0 ∨ rX8_canTell nSt nIl nBa nGa nNs nLi nMi nNx nMv nOn nLa nCl nLn nTh mKi mOn mOt mWh mKt p1 = 1 := by
  unfold rX8_canTell
  repeat' split
  all_goals first | exact Or.inl rfl | exact Or.inr rfl | exact bjX8_canTell_112_0 _ _ _ _ _ _ _ _ _ _ _ _ _ _ _ _ _ _ _ _

/-! X8_canGive -/
def jX8_canGive_38_0 (nSt : Int32) (nIl : Int32) (nBa : Int32) (nGa : Int32) (nNs : Int32) (nLi : Int32) (nMi : Int32) (nNx : Int32) (nMv : Int32) (nOn : Int32) (nLa : Int32) (nCl : Int32) (nLn : Int32) (nTh : Int32) (mOt : Nat → Int32) (mWh : Nat → Int32) (mHt : Nat → Int32) (p1 : Int32) : Int32 := (if (mHt ((mWh (p1).toNatClampNeg)).toNatClampNeg) = (-1 : Int32) then (1 : Int32) else (if (rX8_holds nIl (mHt ((mWh (p1).toNatClampNeg)).toNatClampNeg)) = 0 then (1 : Int32) else (0 : Int32)))
theorem bjX8_canGive_38_0 (nSt : Int32) (nIl : Int32) (nBa : Int32) (nGa : Int32) (nNs : Int32) (nLi : Int32) (nMi : Int32) (nNx : Int32) (nMv : Int32) (nOn : Int32) (nLa : Int32) (nCl : Int32) (nLn : Int32) (nTh : Int32) (mOt : Nat → Int32) (mWh : Nat → Int32) (mHt : Nat → Int32) (p1 : Int32) : jX8_canGive_38_0 nSt nIl nBa nGa nNs nLi nMi nNx nMv nOn nLa nCl nLn nTh mOt mWh mHt p1 = 0 ∨ jX8_canGive_38_0 nSt nIl nBa nGa nNs nLi nMi nNx nMv nOn nLa nCl nLn nTh mOt mWh mHt p1 = 1 := by
  unfold jX8_canGive_38_0
  repeat' split
  all_goals first | exact Or.inl rfl | exact Or.inr rfl
def rX8_canGive (nSt : Int32) (nIl : Int32) (nBa : Int32) (nGa : Int32) (nNs : Int32) (nLi : Int32) (nMi : Int32) (nNx : Int32) (nMv : Int32) (nOn : Int32) (nLa : Int32) (nCl : Int32) (nLn : Int32) (nTh : Int32) (mOt : Nat → Int32) (mWh : Nat → Int32) (mHt : Nat → Int32) (p1 : Int32) : Int32 := (jX8_canGive_38_0 nSt nIl nBa nGa nNs nLi nMi nNx nMv nOn nLa nCl nLn nTh mOt mWh mHt p1)
def oX8_canGive_mHt (nSt : Int32) (nIl : Int32) (nBa : Int32) (nGa : Int32) (nNs : Int32) (nLi : Int32) (nMi : Int32) (nNx : Int32) (nMv : Int32) (nOn : Int32) (nLa : Int32) (nCl : Int32) (nLn : Int32) (nTh : Int32) (mOt : Nat → Int32) (mWh : Nat → Int32) (mHt : Nat → Int32) (p1 : Int32) : Nat → Int32 := (upd mHt ((mWh (p1).toNatClampNeg)).toNatClampNeg (mOt (p1).toNatClampNeg))
set_option maxRecDepth 20000 in
theorem iX8_canGive_X8 : ∀ w ∈ u_ws RX8 TX8 29, w ∈ wsX8_canGive := by decide +kernel
set_option maxRecDepth 20000 in
theorem kX8_canGive_1 : Cond.fieldLink RX8 25 "MaskHallModel" "what" "[I" ∈ wsX8_canGive := by decide +kernel
set_option maxRecDepth 20000 in
theorem kX8_canGive_2 : Cond.fieldLink RX8 56 "MaskHallModel" "hasThen" "[I" ∈ wsX8_canGive := by decide +kernel
set_option maxRecDepth 20000 in
theorem kX8_canGive_3 : Cond.fieldLink RX8 22 "MaskHallModel" "other" "[I" ∈ wsX8_canGive := by decide +kernel
set_option maxRecDepth 20000 in
theorem kX8_canGive_4 : Cond.fieldLink RX8 93 "MaskHallModel" "ills" "I" ∈ wsX8_canGive := by decide +kernel
set_option maxHeartbeats 900000 in
set_option maxRecDepth 100000 in
theorem c_X8_canGive (l : Launch) (dC : Nat → ClassId) (dI : Nat → Nat → Nat) (cI cJ : ClassId) (w0 aOt aWh aHt aFk aFh aKi aOn aLe aWi aPr aPl aPt aKn aHa aKt : Nat) (sz : Nat) (nSt : Int32) (nIl : Int32) (nBa : Int32) (nGa : Int32) (nNs : Int32) (nLi : Int32) (nMi : Int32) (nNx : Int32) (nMv : Int32) (nOn : Int32) (nLa : Int32) (nCl : Int32) (nLn : Int32) (nTh : Int32) (mOt : Nat → Int32) (mWh : Nat → Int32) (mHt : Nat → Int32) (p1 : Int32) (hin1 : vp_in p1 12) (hwh : vp_in (mWh (p1).toNatClampNeg) 4) : Met l yX8_canGive wsX8_canGive ({ frames := 1, cells := 0, slots := 0, locals := 21 }) (va_Pc [.ref w0, .int p1] (zI (dC, dI) [(cI, .int), (cJ, .long)] [(w0, .inr (8, [.ref aFk, .ref aFh, .int nSt, .ref aKi, .ref aOn, .ref aOt, .ref aWh, .int nIl, .int nBa, .int nGa, .ref aLe, .ref aWi, .ref aPr, .ref aPl, .ref aPt, .int nNs, .int nLi, .int nMi, .int nNx, .int nMv, .int nOn, .ref aKn, .ref aHa, .int nLa, .int nCl, .int nLn, .ref aKt, .ref aHt, .int nTh])), (aOt, .inl (cI, 12, .inl mOt)), (aWh, .inl (cI, 12, .inl mWh)), (aHt, .inl (cI, 4, .inl mHt))] sz)) (va_Qi (fun (r : Int32) (u : (Nat → Int32)) => r = rX8_canGive nSt nIl nBa nGa nNs nLi nMi nNx nMv nOn nLa nCl nLn nTh mOt mWh mHt p1 ∧ u = oX8_canGive_mHt nSt nIl nBa nGa nNs nLi nMi nNx nMv nOn nLa nCl nLn nTh mOt mWh mHt p1) (fun u => zO (dC, dI) [(cI, .int), (cJ, .long)] [(w0, .inr (8, [.ref aFk, .ref aFh, .int nSt, .ref aKi, .ref aOn, .ref aOt, .ref aWh, .int nIl, .int nBa, .int nGa, .ref aLe, .ref aWi, .ref aPr, .ref aPl, .ref aPt, .int nNs, .int nLi, .int nMi, .int nNx, .int nMv, .int nOn, .ref aKn, .ref aHa, .int nLa, .int nCl, .int nLn, .ref aKt, .ref aHt, .int nTh])), (aOt, .inl (cI, 12, .inl mOt)), (aWh, .inl (cI, 12, .inl mWh)), (aHt, .inl (cI, 4, .inl u))] (va_A [(w0, .inr (8, [.ref aFk, .ref aFh, .int nSt, .ref aKi, .ref aOn, .ref aOt, .ref aWh, .int nIl, .int nBa, .int nGa, .ref aLe, .ref aWi, .ref aPr, .ref aPl, .ref aPt, .int nNs, .int nLi, .int nMi, .int nNx, .int nMv, .int nOn, .ref aKn, .ref aHa, .int nLa, .int nCl, .int nLn, .ref aKt, .ref aHt, .int nTh])), (aOt, .inl (cI, 12, .inl mOt)), (aWh, .inl (cI, 12, .inl mWh)), (aHt, .inl (cI, 4, .inl mHt))] sz)) (va_A [(w0, .inr (8, [.ref aFk, .ref aFh, .int nSt, .ref aKi, .ref aOn, .ref aOt, .ref aWh, .int nIl, .int nBa, .int nGa, .ref aLe, .ref aWi, .ref aPr, .ref aPl, .ref aPt, .int nNs, .int nLi, .int nMi, .int nNx, .int nMv, .int nOn, .ref aKn, .ref aHa, .int nLa, .int nCl, .int nLn, .ref aKt, .ref aHt, .int nTh])), (aOt, .inl (cI, 12, .inl mOt)), (aWh, .inl (cI, 12, .inl mWh)), (aHt, .inl (cI, 4, .inl mHt))] sz)) 0 0 (va_A [(w0, .inr (8, [.ref aFk, .ref aFh, .int nSt, .ref aKi, .ref aOn, .ref aOt, .ref aWh, .int nIl, .int nBa, .int nGa, .ref aLe, .ref aWi, .ref aPr, .ref aPl, .ref aPt, .int nNs, .int nLi, .int nMi, .int nNx, .int nMv, .int nOn, .ref aKn, .ref aHa, .int nLa, .int nCl, .int nLn, .ref aKt, .ref aHt, .int nTh])), (aOt, .inl (cI, 12, .inl mOt)), (aWh, .inl (cI, 12, .inl mWh)), (aHt, .inl (cI, 4, .inl mHt))] sz) := by
  refine Met.ofW (cc := cX8_canGive) (maxL := 4) (ret := (some .boolean)) (by decide) rfl ?_
  intro p e s m args below meth c s₁ B hml hv
  obtain ⟨rfl, hsz, hP, hK, hD0, hG⟩ := hv
  have hx := B.exec
  have hb := B.bytes
  have hr := B.returns
  have hts := atoms_spec (ws := wsX8_canGive) B.pre
  have hown : s.vm.findClass RX8 = some m.cls := findClass_of_methodNamed B.named
  have hlocks := B.notSynchronized
  subst hsz
  have hD := hD0.self (sz := s.heap.size)
  generalize hAe : va_A [(w0, .inr (8, [.ref aFk, .ref aFh, .int nSt, .ref aKi, .ref aOn, .ref aOt, .ref aWh, .int nIl, .int nBa, .int nGa, .ref aLe, .ref aWi, .ref aPr, .ref aPl, .ref aPt, .int nNs, .int nLi, .int nMi, .int nNx, .int nMv, .int nOn, .ref aKn, .ref aHa, .int nLa, .int nCl, .int nLn, .ref aKt, .ref aHt, .int nTh])), (aOt, .inl (cI, 12, .inl mOt)), (aWh, .inl (cI, 12, .inl mWh)), (aHt, .inl (cI, 4, .inl mHt))] s.heap.size = A at hD hG ⊢
  have hA : ∀ q : Nat, s.heap.size ≤ q → A q := fun q h => by rw [← hAe]; exact Or.inr h
  have hS : va_S A s.heap s.heap [] := va_S.rf
  have hP : va_P (dC, dI) vwCl [(w0, .inr (8, [.ref aFk, .ref aFh, .int nSt, .ref aKi, .ref aOn, .ref aOt, .ref aWh, .int nIl, .int nBa, .int nGa, .ref aLe, .ref aWi, .ref aPr, .ref aPl, .ref aPt, .int nNs, .int nLi, .int nMi, .int nNx, .int nMv, .int nOn, .ref aKn, .ref aHa, .int nLa, .int nCl, .int nLn, .ref aKt, .ref aHt, .int nTh])), (aOt, .inl (cI, 12, .inl mOt)), (aWh, .inl (cI, 12, .inl mWh)), (aHt, .inl (cI, 4, .inl mHt))] s.heap := hP
  have hl := lv_entry ([.ref w0, .int p1]) (n := 4) (Nat.le_of_ble_eq_true rfl)
  rw [lg_entry_eq]
  generalize (lg_sl ([.ref w0, .int p1]) ++ List.replicate (4 - (lg_sl ([.ref w0, .int p1])).length) Slot.unset).toArray = ls at hl ⊢
  have hl : lv_has ls 4 [(0, .ref w0), (1, .int p1)] := hl
  refine lv_aload_n hx hb dX8_canGive_0 rfl (lv_at hl 0 rfl) ?_
  refine va_get (D := (dC, dI)) (ci := 8) (v := .ref aWh) (C := RX8) (T := TX8) (N := 29) hx hb hts iX8_canGive_X8 hown hK hP 0 rfl rfl 6 (by decide) (hts _ kX8_canGive_1) (fun _ h9 => h9) rfl dX8_canGive_1 ?_
  refine lv_iload_n hx hb dX8_canGive_4 rfl (lv_at hl 1 rfl) ?_
  refine va_iald hx hb hK hP 2 0 rfl rfl (i := p1) hin1 dX8_canGive_5 ?_
  refine lv_istore_n (lv' := [(2, .int (mWh (p1).toNatClampNeg)), (0, .ref w0), (1, .int p1)]) hx hb dX8_canGive_6 rfl hl (by decide) rfl (fun ls hl => ?_)
  refine lv_aload_n hx hb dX8_canGive_7 rfl (lv_at hl 1 rfl) ?_
  refine va_get (D := (dC, dI)) (ci := 8) (v := .ref aHt) (C := RX8) (T := TX8) (N := 29) hx hb hts iX8_canGive_X8 hown hK hP 0 rfl rfl 27 (by decide) (hts _ kX8_canGive_2) (fun _ h9 => h9) rfl dX8_canGive_8 ?_
  refine lv_iload_n hx hb dX8_canGive_11 rfl (lv_at hl 0 rfl) ?_
  refine va_iald hx hb hK hP 3 0 rfl rfl (i := (mWh (p1).toNatClampNeg)) hwh dX8_canGive_12 ?_
  refine lv_iconst (v := -1) hx hb dX8_canGive_13 (by decide) ?_
  refine zNm (fun R9 Q9 hR9 hQ9 => ?_)
  have J38 : ∀ (v38_0 : Int32), v38_0 = (jX8_canGive_38_0 nSt nIl nBa nGa nNs nLi nMi nNx nMv nOn nLa nCl nLn nTh mOt mWh mHt p1) → ∀ (ls : Array Slot), lv_has ls 4 [(2, .int (mWh (p1).toNatClampNeg)), (0, .ref w0), (1, .int p1)] → W p l e R9 s m ([.ref w0, .int p1] : List Value).toArray below meth c s.heap [] 0 0 Q9 (F0 m 38 ls [.int v38_0]) := by
    subst hR9; subst hQ9
    intro v38_0 hvv38_0
    rw [hvv38_0]; clear hvv38_0 v38_0
    intro ls hl
    refine lv_istore_n (lv' := [(3, .int (jX8_canGive_38_0 nSt nIl nBa nGa nNs nLi nMi nNx nMv nOn nLa nCl nLn nTh mOt mWh mHt p1)), (2, .int (mWh (p1).toNatClampNeg)), (0, .ref w0), (1, .int p1)]) hx hb dX8_canGive_38 rfl hl (by decide) rfl (fun ls hl => ?_)
    refine lv_aload_n hx hb dX8_canGive_39 rfl (lv_at hl 2 rfl) ?_
    refine va_get (D := (dC, dI)) (ci := 8) (v := .ref aHt) (C := RX8) (T := TX8) (N := 29) hx hb hts iX8_canGive_X8 hown hK hP 0 rfl rfl 27 (by decide) (hts _ kX8_canGive_2) (fun _ h9 => h9) rfl dX8_canGive_40 ?_
    refine lv_iload_n hx hb dX8_canGive_43 rfl (lv_at hl 1 rfl) ?_
    refine lv_aload_n hx hb dX8_canGive_44 rfl (lv_at hl 2 rfl) ?_
    refine va_get (D := (dC, dI)) (ci := 8) (v := .ref aOt) (C := RX8) (T := TX8) (N := 29) hx hb hts iX8_canGive_X8 hown hK hP 0 rfl rfl 5 (by decide) (hts _ kX8_canGive_3) (fun _ h9 => h9) rfl dX8_canGive_45 ?_
    refine lv_iload_n hx hb dX8_canGive_48 rfl (lv_at hl 3 rfl) ?_
    refine va_iald hx hb hK hP 1 0 rfl rfl (i := p1) hin1 dX8_canGive_49 ?_
    refine va_iast hx hb hK hP hD hS 3 0 rfl rfl (i := (mWh (p1).toNatClampNeg)) (x := (mOt (p1).toNatClampNeg)) hwh dX8_canGive_50 (fun H locs hP hD hS => ?_)
    have hP : va_P (dC, dI) vwCl [(w0, .inr (8, [.ref aFk, .ref aFh, .int nSt, .ref aKi, .ref aOn, .ref aOt, .ref aWh, .int nIl, .int nBa, .int nGa, .ref aLe, .ref aWi, .ref aPr, .ref aPl, .ref aPt, .int nNs, .int nLi, .int nMi, .int nNx, .int nMv, .int nOn, .ref aKn, .ref aHa, .int nLa, .int nCl, .int nLn, .ref aKt, .ref aHt, .int nTh])), (aOt, .inl (cI, 12, .inl mOt)), (aWh, .inl (cI, 12, .inl mWh)), (aHt, .inl (cI, 4, .inl (upd mHt ((mWh (p1).toNatClampNeg)).toNatClampNeg (mOt (p1).toNatClampNeg))))] H := hP
    have hD : va_D A [(w0, .inr (8, [.ref aFk, .ref aFh, .int nSt, .ref aKi, .ref aOn, .ref aOt, .ref aWh, .int nIl, .int nBa, .int nGa, .ref aLe, .ref aWi, .ref aPr, .ref aPl, .ref aPt, .int nNs, .int nLi, .int nMi, .int nNx, .int nMv, .int nOn, .ref aKn, .ref aHa, .int nLa, .int nCl, .int nLn, .ref aKt, .ref aHt, .int nTh])), (aOt, .inl (cI, 12, .inl mOt)), (aWh, .inl (cI, 12, .inl mWh)), (aHt, .inl (cI, 4, .inl (upd mHt ((mWh (p1).toNatClampNeg)).toNatClampNeg (mOt (p1).toNatClampNeg))))] := hD
    refine lv_iload_n hx hb dX8_canGive_51 rfl (lv_at hl 0 rfl) ?_
    exact W.zret (v := (jX8_canGive_38_0 nSt nIl nBa nGa nNs nLi nMi nNx nMv nOn nLa nCl nLn nTh mOt mWh mHt p1)) hx hb hr (zNar (bjX8_canGive_38_0 nSt nIl nBa nGa nNs nLi nMi nNx nMv nOn nLa nCl nLn nTh mOt mWh mHt p1)) (fun t ht hW => ⟨⟨(jX8_canGive_38_0 nSt nIl nBa nGa nNs nLi nMi nNx nMv nOn nLa nCl nLn nTh mOt mWh mHt p1), ((upd mHt ((mWh (p1).toNatClampNeg)).toNatClampNeg (mOt (p1).toNatClampNeg))), rfl, ⟨(by unfold rX8_canGive; rfl), (by unfold oX8_canGive_mHt; rfl)⟩, (by (try dsimp only); rw [ht]; exact hP.sub [0, 1, 2, 3] rfl), va_K.moved hW.alike hK, (by (try dsimp only); exact hD.sub [0, 1, 2, 3] (by decide) rfl)⟩, hS.F ht⟩) hS.2.2 dX8_canGive_52
  subst hR9; subst hQ9
  refine lv_icmp_eq (tgt := 33) hx hb dX8_canGive_14 (by decide) (fun c_1 => ?_) (fun c_1 => ?_)
  · refine lv_iconst (v := 1) hx hb dX8_canGive_33 (by decide) ?_
    refine lv_goto (tgt := 38) hx hb dX8_canGive_34 (by decide) ?_
    exact J38 (1 : Int32) (by unfold jX8_canGive_38_0; rw [if_pos c_1]) _ (lv_sub hl [0, 1, 2] rfl)
  · refine lv_aload_n hx hb dX8_canGive_17 rfl (lv_at hl 1 rfl) ?_
    refine va_get (D := (dC, dI)) (ci := 8) (v := .int nIl) (C := RX8) (T := TX8) (N := 29) hx hb hts iX8_canGive_X8 hown hK hP 0 rfl rfl 7 (by decide) (hts _ kX8_canGive_4) (fun _ h9 => h9) rfl dX8_canGive_18 ?_
    refine lv_aload_n hx hb dX8_canGive_21 rfl (lv_at hl 1 rfl) ?_
    refine va_get (D := (dC, dI)) (ci := 8) (v := .ref aHt) (C := RX8) (T := TX8) (N := 29) hx hb hts iX8_canGive_X8 hown hK hP 0 rfl rfl 27 (by decide) (hts _ kX8_canGive_2) (fun _ h9 => h9) rfl dX8_canGive_22 ?_
    refine lv_iload_n hx hb dX8_canGive_25 rfl (lv_at hl 0 rfl) ?_
    refine va_iald hx hb hK hP 3 0 rfl rfl (i := (mWh (p1).toNatClampNeg)) hwh dX8_canGive_26 ?_
    refine zcSi (va_runS (As := [.int nIl, .int (mHt ((mWh (p1).toNatClampNeg)).toNatClampNeg)]) (rest := []) ⟨hx, hb, hml, hown, hts⟩ (c_X8_holds l dC dI cI cJ s.heap.size nIl (mHt ((mWh (p1).toNatClampNeg)).toNatClampNeg) ) (va_cwS 2 hts gX8_canGive_X8_holds rfl rfl rfl (by decide +kernel) ⟨Nat.le_of_ble_eq_true rfl, Nat.le_of_ble_eq_true rfl⟩) (zpS hK hP hD hS hA hG [] (by decide) rfl) rfl rfl hl.1 rfl (lv_room (Nat.le_of_ble_eq_true rfl)) dX8_canGive_27 ⟨Nat.le_of_ble_eq_true rfl, Nat.le_of_ble_eq_true rfl⟩) ?_
    refine lv_if_ne (tgt := 37) hx hb dX8_canGive_30 (by decide) (fun c_2 => ?_) (fun c_2 => ?_)
    · refine lv_iconst (v := 0) hx hb dX8_canGive_37 (by decide) ?_
      exact J38 (0 : Int32) (by unfold jX8_canGive_38_0; rw [if_neg c_1, if_neg c_2]) _ (lv_sub hl [0, 1, 2] rfl)
    · refine lv_iconst (v := 1) hx hb dX8_canGive_33 (by decide) ?_
      refine lv_goto (tgt := 38) hx hb dX8_canGive_34 (by decide) ?_
      exact J38 (1 : Int32) (by unfold jX8_canGive_38_0; rw [if_neg c_1, if_pos c_2]) _ (lv_sub hl [0, 1, 2] rfl)
theorem brX8_canGive (nSt : Int32) (nIl : Int32) (nBa : Int32) (nGa : Int32) (nNs : Int32) (nLi : Int32) (nMi : Int32) (nNx : Int32) (nMv : Int32) (nOn : Int32) (nLa : Int32) (nCl : Int32) (nLn : Int32) (nTh : Int32) (mOt : Nat → Int32) (mWh : Nat → Int32) (mHt : Nat → Int32) (p1 : Int32) : rX8_canGive nSt nIl nBa nGa nNs nLi nMi nNx nMv nOn nLa nCl nLn nTh mOt mWh mHt p1 = 0 ∨ rX8_canGive nSt nIl nBa nGa nNs nLi nMi nNx nMv nOn nLa nCl nLn nTh mOt mWh mHt p1 = 1 := by
  unfold rX8_canGive
  repeat' split
  all_goals first | exact Or.inl rfl | exact Or.inr rfl | exact bjX8_canGive_38_0 _ _ _ _ _ _ _ _ _ _ _ _ _ _ _ _ _ _

/-! X8_canClose -/
def jX8_canClose_74_0 (nSt : Int32) (nIl : Int32) (nBa : Int32) (nGa : Int32) (nNs : Int32) (nLi : Int32) (nMi : Int32) (nNx : Int32) (nMv : Int32) (nOn : Int32) (nLa : Int32) (nCl : Int32) (nLn : Int32) (nTh : Int32) (mKi : Nat → Int32) (mOn : Nat → Int32) (mOt : Nat → Int32) (mWh : Nat → Int32) (mKn : Nat → Int32) (mHa : Nat → Int32) (mKt : Nat → Int32) (mHt : Nat → Int32) (p1 : Int32) (mKt1 : Nat → Int32) (mHt1 : Nat → Int32) (i1 : Int32) (mKt2 : Nat → Int32) (mHt2 : Nat → Int32) (ca1 : Int32) (k1 : Int32) : Int32 := (if (mKi (k1).toNatClampNeg) = (2 : Int32) then (0 : Int32) else (if (mKi (k1).toNatClampNeg) = (3 : Int32) then (0 : Int32) else (1 : Int32)))
theorem bjX8_canClose_74_0 (nSt : Int32) (nIl : Int32) (nBa : Int32) (nGa : Int32) (nNs : Int32) (nLi : Int32) (nMi : Int32) (nNx : Int32) (nMv : Int32) (nOn : Int32) (nLa : Int32) (nCl : Int32) (nLn : Int32) (nTh : Int32) (mKi : Nat → Int32) (mOn : Nat → Int32) (mOt : Nat → Int32) (mWh : Nat → Int32) (mKn : Nat → Int32) (mHa : Nat → Int32) (mKt : Nat → Int32) (mHt : Nat → Int32) (p1 : Int32) (mKt1 : Nat → Int32) (mHt1 : Nat → Int32) (i1 : Int32) (mKt2 : Nat → Int32) (mHt2 : Nat → Int32) (ca1 : Int32) (k1 : Int32) : jX8_canClose_74_0 nSt nIl nBa nGa nNs nLi nMi nNx nMv nOn nLa nCl nLn nTh mKi mOn mOt mWh mKn mHa mKt mHt p1 mKt1 mHt1 i1 mKt2 mHt2 ca1 k1 = 0 ∨ jX8_canClose_74_0 nSt nIl nBa nGa nNs nLi nMi nNx nMv nOn nLa nCl nLn nTh mKi mOn mOt mWh mKn mHa mKt mHt p1 mKt1 mHt1 i1 mKt2 mHt2 ca1 k1 = 1 := by
  unfold jX8_canClose_74_0
  repeat' split
  all_goals first | exact Or.inl rfl | exact Or.inr rfl
def jX8_canClose_122_0 (nSt : Int32) (nIl : Int32) (nBa : Int32) (nGa : Int32) (nNs : Int32) (nLi : Int32) (nMi : Int32) (nNx : Int32) (nMv : Int32) (nOn : Int32) (nLa : Int32) (nCl : Int32) (nLn : Int32) (nTh : Int32) (mKi : Nat → Int32) (mOn : Nat → Int32) (mOt : Nat → Int32) (mWh : Nat → Int32) (mKn : Nat → Int32) (mHa : Nat → Int32) (mKt : Nat → Int32) (mHt : Nat → Int32) (p1 : Int32) (mKt1 : Nat → Int32) (mHt1 : Nat → Int32) (i1 : Int32) (mKt2 : Nat → Int32) (mHt2 : Nat → Int32) (ca1 : Int32) (k1 : Int32) : Int32 := (if ca1 = 0 then (0 : Int32) else (if (rX8_holds nIl (mOn (k1).toNatClampNeg)) = 0 then (if (jX8_canClose_74_0 nSt nIl nBa nGa nNs nLi nMi nNx nMv nOn nLa nCl nLn nTh mKi mOn mOt mWh mKn mHa mKt mHt p1 mKt1 mHt1 i1 mKt2 mHt2 ca1 k1) = 0 then (1 : Int32) else (if (rX8_holds nIl (mOt (k1).toNatClampNeg)) = 0 then (1 : Int32) else (0 : Int32))) else (0 : Int32)))
theorem bjX8_canClose_122_0 (nSt : Int32) (nIl : Int32) (nBa : Int32) (nGa : Int32) (nNs : Int32) (nLi : Int32) (nMi : Int32) (nNx : Int32) (nMv : Int32) (nOn : Int32) (nLa : Int32) (nCl : Int32) (nLn : Int32) (nTh : Int32) (mKi : Nat → Int32) (mOn : Nat → Int32) (mOt : Nat → Int32) (mWh : Nat → Int32) (mKn : Nat → Int32) (mHa : Nat → Int32) (mKt : Nat → Int32) (mHt : Nat → Int32) (p1 : Int32) (mKt1 : Nat → Int32) (mHt1 : Nat → Int32) (i1 : Int32) (mKt2 : Nat → Int32) (mHt2 : Nat → Int32) (ca1 : Int32) (k1 : Int32) : jX8_canClose_122_0 nSt nIl nBa nGa nNs nLi nMi nNx nMv nOn nLa nCl nLn nTh mKi mOn mOt mWh mKn mHa mKt mHt p1 mKt1 mHt1 i1 mKt2 mHt2 ca1 k1 = 0 ∨ jX8_canClose_122_0 nSt nIl nBa nGa nNs nLi nMi nNx nMv nOn nLa nCl nLn nTh mKi mOn mOt mWh mKn mHa mKt mHt p1 mKt1 mHt1 i1 mKt2 mHt2 ca1 k1 = 1 := by
  unfold jX8_canClose_122_0
  repeat' split
  all_goals first | exact Or.inl rfl | exact Or.inr rfl
def jX8_canClose_167_0 (nSt : Int32) (nIl : Int32) (nBa : Int32) (nGa : Int32) (nNs : Int32) (nLi : Int32) (nMi : Int32) (nNx : Int32) (nMv : Int32) (nOn : Int32) (nLa : Int32) (nCl : Int32) (nLn : Int32) (nTh : Int32) (mKi : Nat → Int32) (mOn : Nat → Int32) (mOt : Nat → Int32) (mWh : Nat → Int32) (mKn : Nat → Int32) (mHa : Nat → Int32) (mKt : Nat → Int32) (mHt : Nat → Int32) (p1 : Int32) (mKt1 : Nat → Int32) (mHt1 : Nat → Int32) (i1 : Int32) (mKt2 : Nat → Int32) (mHt2 : Nat → Int32) (ca1 : Int32) (k1 : Int32) : Int32 := (if (jX8_canClose_122_0 nSt nIl nBa nGa nNs nLi nMi nNx nMv nOn nLa nCl nLn nTh mKi mOn mOt mWh mKn mHa mKt mHt p1 mKt1 mHt1 i1 mKt2 mHt2 ca1 k1) = 0 then (0 : Int32) else (if (mKi (k1).toNatClampNeg) = 0 then (if (rX8_canTell nSt nIl nBa nGa nNs nLi nMi nNx nMv nOn nLa nCl nLn nTh mKi mOn mOt mWh mKt2 k1) = 0 then (0 : Int32) else (if (mKi (k1).toNatClampNeg) = (1 : Int32) then (if (rX8_canGive nSt nIl nBa nGa nNs nLi nMi nNx nMv nOn nLa nCl nLn nTh mOt mWh mHt2 k1) = 0 then (0 : Int32) else (1 : Int32)) else (1 : Int32))) else (if (mKi (k1).toNatClampNeg) = (1 : Int32) then (if (rX8_canGive nSt nIl nBa nGa nNs nLi nMi nNx nMv nOn nLa nCl nLn nTh mOt mWh mHt2 k1) = 0 then (0 : Int32) else (1 : Int32)) else (1 : Int32))))
theorem bjX8_canClose_167_0 (nSt : Int32) (nIl : Int32) (nBa : Int32) (nGa : Int32) (nNs : Int32) (nLi : Int32) (nMi : Int32) (nNx : Int32) (nMv : Int32) (nOn : Int32) (nLa : Int32) (nCl : Int32) (nLn : Int32) (nTh : Int32) (mKi : Nat → Int32) (mOn : Nat → Int32) (mOt : Nat → Int32) (mWh : Nat → Int32) (mKn : Nat → Int32) (mHa : Nat → Int32) (mKt : Nat → Int32) (mHt : Nat → Int32) (p1 : Int32) (mKt1 : Nat → Int32) (mHt1 : Nat → Int32) (i1 : Int32) (mKt2 : Nat → Int32) (mHt2 : Nat → Int32) (ca1 : Int32) (k1 : Int32) : jX8_canClose_167_0 nSt nIl nBa nGa nNs nLi nMi nNx nMv nOn nLa nCl nLn nTh mKi mOn mOt mWh mKn mHa mKt mHt p1 mKt1 mHt1 i1 mKt2 mHt2 ca1 k1 = 0 ∨ jX8_canClose_167_0 nSt nIl nBa nGa nNs nLi nMi nNx nMv nOn nLa nCl nLn nTh mKi mOn mOt mWh mKn mHa mKt mHt p1 mKt1 mHt1 i1 mKt2 mHt2 ca1 k1 = 1 := by
  unfold jX8_canClose_167_0
  repeat' split
  all_goals first | exact Or.inl rfl | exact Or.inr rfl
def jX8_canClose_167_1 (nSt : Int32) (nIl : Int32) (nBa : Int32) (nGa : Int32) (nNs : Int32) (nLi : Int32) (nMi : Int32) (nNx : Int32) (nMv : Int32) (nOn : Int32) (nLa : Int32) (nCl : Int32) (nLn : Int32) (nTh : Int32) (mKi : Nat → Int32) (mOn : Nat → Int32) (mOt : Nat → Int32) (mWh : Nat → Int32) (mKn : Nat → Int32) (mHa : Nat → Int32) (mKt : Nat → Int32) (mHt : Nat → Int32) (p1 : Int32) (mKt1 : Nat → Int32) (mHt1 : Nat → Int32) (i1 : Int32) (mKt2 : Nat → Int32) (mHt2 : Nat → Int32) (ca1 : Int32) (k1 : Int32) : (Nat → Int32) := (if (jX8_canClose_122_0 nSt nIl nBa nGa nNs nLi nMi nNx nMv nOn nLa nCl nLn nTh mKi mOn mOt mWh mKn mHa mKt mHt p1 mKt1 mHt1 i1 mKt2 mHt2 ca1 k1) = 0 then mKt2 else (if (mKi (k1).toNatClampNeg) = 0 then (oX8_canTell_mKt nSt nIl nBa nGa nNs nLi nMi nNx nMv nOn nLa nCl nLn nTh mKi mOn mOt mWh mKt2 k1) else mKt2))
def jX8_canClose_167_2 (nSt : Int32) (nIl : Int32) (nBa : Int32) (nGa : Int32) (nNs : Int32) (nLi : Int32) (nMi : Int32) (nNx : Int32) (nMv : Int32) (nOn : Int32) (nLa : Int32) (nCl : Int32) (nLn : Int32) (nTh : Int32) (mKi : Nat → Int32) (mOn : Nat → Int32) (mOt : Nat → Int32) (mWh : Nat → Int32) (mKn : Nat → Int32) (mHa : Nat → Int32) (mKt : Nat → Int32) (mHt : Nat → Int32) (p1 : Int32) (mKt1 : Nat → Int32) (mHt1 : Nat → Int32) (i1 : Int32) (mKt2 : Nat → Int32) (mHt2 : Nat → Int32) (ca1 : Int32) (k1 : Int32) : (Nat → Int32) := (if (jX8_canClose_122_0 nSt nIl nBa nGa nNs nLi nMi nNx nMv nOn nLa nCl nLn nTh mKi mOn mOt mWh mKn mHa mKt mHt p1 mKt1 mHt1 i1 mKt2 mHt2 ca1 k1) = 0 then mHt2 else (if (mKi (k1).toNatClampNeg) = 0 then (if (rX8_canTell nSt nIl nBa nGa nNs nLi nMi nNx nMv nOn nLa nCl nLn nTh mKi mOn mOt mWh mKt2 k1) = 0 then mHt2 else (if (mKi (k1).toNatClampNeg) = (1 : Int32) then (oX8_canGive_mHt nSt nIl nBa nGa nNs nLi nMi nNx nMv nOn nLa nCl nLn nTh mOt mWh mHt2 k1) else mHt2)) else (if (mKi (k1).toNatClampNeg) = (1 : Int32) then (oX8_canGive_mHt nSt nIl nBa nGa nNs nLi nMi nNx nMv nOn nLa nCl nLn nTh mOt mWh mHt2 k1) else mHt2)))
def lX8_canClose_41_r (nSt : Int32) (nIl : Int32) (nBa : Int32) (nGa : Int32) (nNs : Int32) (nLi : Int32) (nMi : Int32) (nNx : Int32) (nMv : Int32) (nOn : Int32) (nLa : Int32) (nCl : Int32) (nLn : Int32) (nTh : Int32) (mKi : Nat → Int32) (mOn : Nat → Int32) (mOt : Nat → Int32) (mWh : Nat → Int32) (mKn : Nat → Int32) (mHa : Nat → Int32) (mKt : Nat → Int32) (mHt : Nat → Int32) (p1 : Int32) (mKt1 : Nat → Int32) (mHt1 : Nat → Int32) (i1 : Int32) : Nat → (Nat → Int32) → (Nat → Int32) → (Int32) → (Int32) → (Int32)
  | 0, _, _, _, _ => 0
  | n41 + 1, mKt2, mHt2, ca1, k1 => (if nSt ≤ k1 then ca1 else (lX8_canClose_41_r nSt nIl nBa nGa nNs nLi nMi nNx nMv nOn nLa nCl nLn nTh mKi mOn mOt mWh mKn mHa mKt mHt p1 mKt1 mHt1 i1 n41 (jX8_canClose_167_1 nSt nIl nBa nGa nNs nLi nMi nNx nMv nOn nLa nCl nLn nTh mKi mOn mOt mWh mKn mHa mKt mHt p1 mKt1 mHt1 i1 mKt2 mHt2 ca1 k1) (jX8_canClose_167_2 nSt nIl nBa nGa nNs nLi nMi nNx nMv nOn nLa nCl nLn nTh mKi mOn mOt mWh mKn mHa mKt mHt p1 mKt1 mHt1 i1 mKt2 mHt2 ca1 k1) (jX8_canClose_167_0 nSt nIl nBa nGa nNs nLi nMi nNx nMv nOn nLa nCl nLn nTh mKi mOn mOt mWh mKn mHa mKt mHt p1 mKt1 mHt1 i1 mKt2 mHt2 ca1 k1) (k1 + 1)))
def lX8_canClose_41_mKt (nSt : Int32) (nIl : Int32) (nBa : Int32) (nGa : Int32) (nNs : Int32) (nLi : Int32) (nMi : Int32) (nNx : Int32) (nMv : Int32) (nOn : Int32) (nLa : Int32) (nCl : Int32) (nLn : Int32) (nTh : Int32) (mKi : Nat → Int32) (mOn : Nat → Int32) (mOt : Nat → Int32) (mWh : Nat → Int32) (mKn : Nat → Int32) (mHa : Nat → Int32) (mKt : Nat → Int32) (mHt : Nat → Int32) (p1 : Int32) (mKt1 : Nat → Int32) (mHt1 : Nat → Int32) (i1 : Int32) : Nat → (Nat → Int32) → (Nat → Int32) → (Int32) → (Int32) → (Nat → Int32)
  | 0, _, _, _, _ => fun _ => 0
  | n41 + 1, mKt2, mHt2, ca1, k1 => (if nSt ≤ k1 then mKt2 else (lX8_canClose_41_mKt nSt nIl nBa nGa nNs nLi nMi nNx nMv nOn nLa nCl nLn nTh mKi mOn mOt mWh mKn mHa mKt mHt p1 mKt1 mHt1 i1 n41 (jX8_canClose_167_1 nSt nIl nBa nGa nNs nLi nMi nNx nMv nOn nLa nCl nLn nTh mKi mOn mOt mWh mKn mHa mKt mHt p1 mKt1 mHt1 i1 mKt2 mHt2 ca1 k1) (jX8_canClose_167_2 nSt nIl nBa nGa nNs nLi nMi nNx nMv nOn nLa nCl nLn nTh mKi mOn mOt mWh mKn mHa mKt mHt p1 mKt1 mHt1 i1 mKt2 mHt2 ca1 k1) (jX8_canClose_167_0 nSt nIl nBa nGa nNs nLi nMi nNx nMv nOn nLa nCl nLn nTh mKi mOn mOt mWh mKn mHa mKt mHt p1 mKt1 mHt1 i1 mKt2 mHt2 ca1 k1) (k1 + 1)))
def lX8_canClose_41_mHt (nSt : Int32) (nIl : Int32) (nBa : Int32) (nGa : Int32) (nNs : Int32) (nLi : Int32) (nMi : Int32) (nNx : Int32) (nMv : Int32) (nOn : Int32) (nLa : Int32) (nCl : Int32) (nLn : Int32) (nTh : Int32) (mKi : Nat → Int32) (mOn : Nat → Int32) (mOt : Nat → Int32) (mWh : Nat → Int32) (mKn : Nat → Int32) (mHa : Nat → Int32) (mKt : Nat → Int32) (mHt : Nat → Int32) (p1 : Int32) (mKt1 : Nat → Int32) (mHt1 : Nat → Int32) (i1 : Int32) : Nat → (Nat → Int32) → (Nat → Int32) → (Int32) → (Int32) → (Nat → Int32)
  | 0, _, _, _, _ => fun _ => 0
  | n41 + 1, mKt2, mHt2, ca1, k1 => (if nSt ≤ k1 then mHt2 else (lX8_canClose_41_mHt nSt nIl nBa nGa nNs nLi nMi nNx nMv nOn nLa nCl nLn nTh mKi mOn mOt mWh mKn mHa mKt mHt p1 mKt1 mHt1 i1 n41 (jX8_canClose_167_1 nSt nIl nBa nGa nNs nLi nMi nNx nMv nOn nLa nCl nLn nTh mKi mOn mOt mWh mKn mHa mKt mHt p1 mKt1 mHt1 i1 mKt2 mHt2 ca1 k1) (jX8_canClose_167_2 nSt nIl nBa nGa nNs nLi nMi nNx nMv nOn nLa nCl nLn nTh mKi mOn mOt mWh mKn mHa mKt mHt p1 mKt1 mHt1 i1 mKt2 mHt2 ca1 k1) (jX8_canClose_167_0 nSt nIl nBa nGa nNs nLi nMi nNx nMv nOn nLa nCl nLn nTh mKi mOn mOt mWh mKn mHa mKt mHt p1 mKt1 mHt1 i1 mKt2 mHt2 ca1 k1) (k1 + 1)))
def qX8_canClose_37_r (nSt : Int32) (nIl : Int32) (nBa : Int32) (nGa : Int32) (nNs : Int32) (nLi : Int32) (nMi : Int32) (nNx : Int32) (nMv : Int32) (nOn : Int32) (nLa : Int32) (nCl : Int32) (nLn : Int32) (nTh : Int32) (mKi : Nat → Int32) (mOn : Nat → Int32) (mOt : Nat → Int32) (mWh : Nat → Int32) (mKn : Nat → Int32) (mHa : Nat → Int32) (mKt : Nat → Int32) (mHt : Nat → Int32) (p1 : Int32) (mKt1 : Nat → Int32) (mHt1 : Nat → Int32) (i1 : Int32) : Int32 := (lX8_canClose_41_r nSt nIl nBa nGa nNs nLi nMi nNx nMv nOn nLa nCl nLn nTh mKi mOn mOt mWh mKn mHa mKt mHt p1 mKt1 mHt1 i1 14 mKt1 mHt1 (1 : Int32) p1)
def lX8_canClose_2_r (nSt : Int32) (nIl : Int32) (nBa : Int32) (nGa : Int32) (nNs : Int32) (nLi : Int32) (nMi : Int32) (nNx : Int32) (nMv : Int32) (nOn : Int32) (nLa : Int32) (nCl : Int32) (nLn : Int32) (nTh : Int32) (mKi : Nat → Int32) (mOn : Nat → Int32) (mOt : Nat → Int32) (mWh : Nat → Int32) (mKn : Nat → Int32) (mHa : Nat → Int32) (mKt : Nat → Int32) (mHt : Nat → Int32) (p1 : Int32) : Nat → (Nat → Int32) → (Nat → Int32) → (Int32) → (Int32)
  | 0, _, _, _ => 0
  | n2 + 1, mKt1, mHt1, i1 => (if (4 : Int32) ≤ i1 then (qX8_canClose_37_r nSt nIl nBa nGa nNs nLi nMi nNx nMv nOn nLa nCl nLn nTh mKi mOn mOt mWh mKn mHa mKt mHt p1 mKt1 mHt1 i1) else (lX8_canClose_2_r nSt nIl nBa nGa nNs nLi nMi nNx nMv nOn nLa nCl nLn nTh mKi mOn mOt mWh mKn mHa mKt mHt p1 n2 (upd mKt1 (i1).toNatClampNeg (mKn (i1).toNatClampNeg)) (upd mHt1 (i1).toNatClampNeg (mHa (i1).toNatClampNeg)) (i1 + 1)))
def qX8_canClose_37_mKt (nSt : Int32) (nIl : Int32) (nBa : Int32) (nGa : Int32) (nNs : Int32) (nLi : Int32) (nMi : Int32) (nNx : Int32) (nMv : Int32) (nOn : Int32) (nLa : Int32) (nCl : Int32) (nLn : Int32) (nTh : Int32) (mKi : Nat → Int32) (mOn : Nat → Int32) (mOt : Nat → Int32) (mWh : Nat → Int32) (mKn : Nat → Int32) (mHa : Nat → Int32) (mKt : Nat → Int32) (mHt : Nat → Int32) (p1 : Int32) (mKt1 : Nat → Int32) (mHt1 : Nat → Int32) (i1 : Int32) : Nat → Int32 := (lX8_canClose_41_mKt nSt nIl nBa nGa nNs nLi nMi nNx nMv nOn nLa nCl nLn nTh mKi mOn mOt mWh mKn mHa mKt mHt p1 mKt1 mHt1 i1 14 mKt1 mHt1 (1 : Int32) p1)
def lX8_canClose_2_mKt (nSt : Int32) (nIl : Int32) (nBa : Int32) (nGa : Int32) (nNs : Int32) (nLi : Int32) (nMi : Int32) (nNx : Int32) (nMv : Int32) (nOn : Int32) (nLa : Int32) (nCl : Int32) (nLn : Int32) (nTh : Int32) (mKi : Nat → Int32) (mOn : Nat → Int32) (mOt : Nat → Int32) (mWh : Nat → Int32) (mKn : Nat → Int32) (mHa : Nat → Int32) (mKt : Nat → Int32) (mHt : Nat → Int32) (p1 : Int32) : Nat → (Nat → Int32) → (Nat → Int32) → (Int32) → (Nat → Int32)
  | 0, _, _, _ => fun _ => 0
  | n2 + 1, mKt1, mHt1, i1 => (if (4 : Int32) ≤ i1 then (qX8_canClose_37_mKt nSt nIl nBa nGa nNs nLi nMi nNx nMv nOn nLa nCl nLn nTh mKi mOn mOt mWh mKn mHa mKt mHt p1 mKt1 mHt1 i1) else (lX8_canClose_2_mKt nSt nIl nBa nGa nNs nLi nMi nNx nMv nOn nLa nCl nLn nTh mKi mOn mOt mWh mKn mHa mKt mHt p1 n2 (upd mKt1 (i1).toNatClampNeg (mKn (i1).toNatClampNeg)) (upd mHt1 (i1).toNatClampNeg (mHa (i1).toNatClampNeg)) (i1 + 1)))
def qX8_canClose_37_mHt (nSt : Int32) (nIl : Int32) (nBa : Int32) (nGa : Int32) (nNs : Int32) (nLi : Int32) (nMi : Int32) (nNx : Int32) (nMv : Int32) (nOn : Int32) (nLa : Int32) (nCl : Int32) (nLn : Int32) (nTh : Int32) (mKi : Nat → Int32) (mOn : Nat → Int32) (mOt : Nat → Int32) (mWh : Nat → Int32) (mKn : Nat → Int32) (mHa : Nat → Int32) (mKt : Nat → Int32) (mHt : Nat → Int32) (p1 : Int32) (mKt1 : Nat → Int32) (mHt1 : Nat → Int32) (i1 : Int32) : Nat → Int32 := (lX8_canClose_41_mHt nSt nIl nBa nGa nNs nLi nMi nNx nMv nOn nLa nCl nLn nTh mKi mOn mOt mWh mKn mHa mKt mHt p1 mKt1 mHt1 i1 14 mKt1 mHt1 (1 : Int32) p1)
def lX8_canClose_2_mHt (nSt : Int32) (nIl : Int32) (nBa : Int32) (nGa : Int32) (nNs : Int32) (nLi : Int32) (nMi : Int32) (nNx : Int32) (nMv : Int32) (nOn : Int32) (nLa : Int32) (nCl : Int32) (nLn : Int32) (nTh : Int32) (mKi : Nat → Int32) (mOn : Nat → Int32) (mOt : Nat → Int32) (mWh : Nat → Int32) (mKn : Nat → Int32) (mHa : Nat → Int32) (mKt : Nat → Int32) (mHt : Nat → Int32) (p1 : Int32) : Nat → (Nat → Int32) → (Nat → Int32) → (Int32) → (Nat → Int32)
  | 0, _, _, _ => fun _ => 0
  | n2 + 1, mKt1, mHt1, i1 => (if (4 : Int32) ≤ i1 then (qX8_canClose_37_mHt nSt nIl nBa nGa nNs nLi nMi nNx nMv nOn nLa nCl nLn nTh mKi mOn mOt mWh mKn mHa mKt mHt p1 mKt1 mHt1 i1) else (lX8_canClose_2_mHt nSt nIl nBa nGa nNs nLi nMi nNx nMv nOn nLa nCl nLn nTh mKi mOn mOt mWh mKn mHa mKt mHt p1 n2 (upd mKt1 (i1).toNatClampNeg (mKn (i1).toNatClampNeg)) (upd mHt1 (i1).toNatClampNeg (mHa (i1).toNatClampNeg)) (i1 + 1)))
def rX8_canClose (nSt : Int32) (nIl : Int32) (nBa : Int32) (nGa : Int32) (nNs : Int32) (nLi : Int32) (nMi : Int32) (nNx : Int32) (nMv : Int32) (nOn : Int32) (nLa : Int32) (nCl : Int32) (nLn : Int32) (nTh : Int32) (mKi : Nat → Int32) (mOn : Nat → Int32) (mOt : Nat → Int32) (mWh : Nat → Int32) (mKn : Nat → Int32) (mHa : Nat → Int32) (mKt : Nat → Int32) (mHt : Nat → Int32) (p1 : Int32) : Int32 := (lX8_canClose_2_r nSt nIl nBa nGa nNs nLi nMi nNx nMv nOn nLa nCl nLn nTh mKi mOn mOt mWh mKn mHa mKt mHt p1 5 mKt mHt (0 : Int32))
def oX8_canClose_mKt (nSt : Int32) (nIl : Int32) (nBa : Int32) (nGa : Int32) (nNs : Int32) (nLi : Int32) (nMi : Int32) (nNx : Int32) (nMv : Int32) (nOn : Int32) (nLa : Int32) (nCl : Int32) (nLn : Int32) (nTh : Int32) (mKi : Nat → Int32) (mOn : Nat → Int32) (mOt : Nat → Int32) (mWh : Nat → Int32) (mKn : Nat → Int32) (mHa : Nat → Int32) (mKt : Nat → Int32) (mHt : Nat → Int32) (p1 : Int32) : Nat → Int32 := (lX8_canClose_2_mKt nSt nIl nBa nGa nNs nLi nMi nNx nMv nOn nLa nCl nLn nTh mKi mOn mOt mWh mKn mHa mKt mHt p1 5 mKt mHt (0 : Int32))
def oX8_canClose_mHt (nSt : Int32) (nIl : Int32) (nBa : Int32) (nGa : Int32) (nNs : Int32) (nLi : Int32) (nMi : Int32) (nNx : Int32) (nMv : Int32) (nOn : Int32) (nLa : Int32) (nCl : Int32) (nLn : Int32) (nTh : Int32) (mKi : Nat → Int32) (mOn : Nat → Int32) (mOt : Nat → Int32) (mWh : Nat → Int32) (mKn : Nat → Int32) (mHa : Nat → Int32) (mKt : Nat → Int32) (mHt : Nat → Int32) (p1 : Int32) : Nat → Int32 := (lX8_canClose_2_mHt nSt nIl nBa nGa nNs nLi nMi nNx nMv nOn nLa nCl nLn nTh mKi mOn mOt mWh mKn mHa mKt mHt p1 5 mKt mHt (0 : Int32))
set_option maxRecDepth 20000 in
theorem iX8_canClose_X8 : ∀ w ∈ u_ws RX8 TX8 29, w ∈ wsX8_canClose := by decide +kernel
set_option maxRecDepth 20000 in
theorem kX8_canClose_1 : Cond.fieldLink RX8 90 "MaskHallModel" "steps" "I" ∈ wsX8_canClose := by decide +kernel
set_option maxRecDepth 20000 in
theorem kX8_canClose_2 : Cond.fieldLink RX8 16 "MaskHallModel" "kind" "[I" ∈ wsX8_canClose := by decide +kernel
set_option maxRecDepth 20000 in
theorem kX8_canClose_3 : Cond.fieldLink RX8 93 "MaskHallModel" "ills" "I" ∈ wsX8_canClose := by decide +kernel
set_option maxRecDepth 20000 in
theorem kX8_canClose_4 : Cond.fieldLink RX8 19 "MaskHallModel" "one" "[I" ∈ wsX8_canClose := by decide +kernel
set_option maxRecDepth 20000 in
theorem kX8_canClose_5 : Cond.fieldLink RX8 22 "MaskHallModel" "other" "[I" ∈ wsX8_canClose := by decide +kernel
set_option maxRecDepth 20000 in
theorem kX8_canClose_6 : Cond.fieldLink RX8 53 "MaskHallModel" "knownThen" "[I" ∈ wsX8_canClose := by decide +kernel
set_option maxRecDepth 20000 in
theorem kX8_canClose_7 : Cond.fieldLink RX8 47 "MaskHallModel" "known" "[I" ∈ wsX8_canClose := by decide +kernel
set_option maxRecDepth 20000 in
theorem kX8_canClose_8 : Cond.fieldLink RX8 56 "MaskHallModel" "hasThen" "[I" ∈ wsX8_canClose := by decide +kernel
set_option maxRecDepth 20000 in
theorem kX8_canClose_9 : Cond.fieldLink RX8 50 "MaskHallModel" "has" "[I" ∈ wsX8_canClose := by decide +kernel
set_option maxHeartbeats 2780000 in
set_option maxRecDepth 100000 in
theorem c_X8_canClose (l : Launch) (dC : Nat → ClassId) (dI : Nat → Nat → Nat) (cI cJ : ClassId) (w0 aKi aOn aOt aWh aKn aHa aKt aHt aFk aFh aLe aWi aPr aPl aPt : Nat) (sz : Nat) (nSt : Int32) (nIl : Int32) (nBa : Int32) (nGa : Int32) (nNs : Int32) (nLi : Int32) (nMi : Int32) (nNx : Int32) (nMv : Int32) (nOn : Int32) (nLa : Int32) (nCl : Int32) (nLn : Int32) (nTh : Int32) (mKi : Nat → Int32) (mOn : Nat → Int32) (mOt : Nat → Int32) (mWh : Nat → Int32) (mKn : Nat → Int32) (mHa : Nat → Int32) (mKt : Nat → Int32) (mHt : Nat → Int32) (p1 : Int32) (hst0 : 0 ≤ nSt.toInt) (hst : nSt.toInt ≤ 12) (hWH : ∀ j : Nat, j < 12 → vp_in (mWh j) 4) (hp0 : 0 ≤ p1.toInt) : Met l yX8_canClose wsX8_canClose ({ frames := 2, cells := 0, slots := 0, locals := 49 }) (va_Pc [.ref w0, .int p1] (zI (dC, dI) [(cI, .int), (cJ, .long)] [(w0, .inr (8, [.ref aFk, .ref aFh, .int nSt, .ref aKi, .ref aOn, .ref aOt, .ref aWh, .int nIl, .int nBa, .int nGa, .ref aLe, .ref aWi, .ref aPr, .ref aPl, .ref aPt, .int nNs, .int nLi, .int nMi, .int nNx, .int nMv, .int nOn, .ref aKn, .ref aHa, .int nLa, .int nCl, .int nLn, .ref aKt, .ref aHt, .int nTh])), (aKi, .inl (cI, 12, .inl mKi)), (aOn, .inl (cI, 12, .inl mOn)), (aOt, .inl (cI, 12, .inl mOt)), (aWh, .inl (cI, 12, .inl mWh)), (aKn, .inl (cI, 4, .inl mKn)), (aHa, .inl (cI, 4, .inl mHa)), (aKt, .inl (cI, 4, .inl mKt)), (aHt, .inl (cI, 4, .inl mHt))] sz)) (va_Qi (fun (r : Int32) (u : (Nat → Int32) × (Nat → Int32)) => r = rX8_canClose nSt nIl nBa nGa nNs nLi nMi nNx nMv nOn nLa nCl nLn nTh mKi mOn mOt mWh mKn mHa mKt mHt p1 ∧ u.1 = oX8_canClose_mKt nSt nIl nBa nGa nNs nLi nMi nNx nMv nOn nLa nCl nLn nTh mKi mOn mOt mWh mKn mHa mKt mHt p1 ∧ u.2 = oX8_canClose_mHt nSt nIl nBa nGa nNs nLi nMi nNx nMv nOn nLa nCl nLn nTh mKi mOn mOt mWh mKn mHa mKt mHt p1) (fun u => zO (dC, dI) [(cI, .int), (cJ, .long)] [(w0, .inr (8, [.ref aFk, .ref aFh, .int nSt, .ref aKi, .ref aOn, .ref aOt, .ref aWh, .int nIl, .int nBa, .int nGa, .ref aLe, .ref aWi, .ref aPr, .ref aPl, .ref aPt, .int nNs, .int nLi, .int nMi, .int nNx, .int nMv, .int nOn, .ref aKn, .ref aHa, .int nLa, .int nCl, .int nLn, .ref aKt, .ref aHt, .int nTh])), (aKi, .inl (cI, 12, .inl mKi)), (aOn, .inl (cI, 12, .inl mOn)), (aOt, .inl (cI, 12, .inl mOt)), (aWh, .inl (cI, 12, .inl mWh)), (aKn, .inl (cI, 4, .inl mKn)), (aHa, .inl (cI, 4, .inl mHa)), (aKt, .inl (cI, 4, .inl u.1)), (aHt, .inl (cI, 4, .inl u.2))] (va_A [(w0, .inr (8, [.ref aFk, .ref aFh, .int nSt, .ref aKi, .ref aOn, .ref aOt, .ref aWh, .int nIl, .int nBa, .int nGa, .ref aLe, .ref aWi, .ref aPr, .ref aPl, .ref aPt, .int nNs, .int nLi, .int nMi, .int nNx, .int nMv, .int nOn, .ref aKn, .ref aHa, .int nLa, .int nCl, .int nLn, .ref aKt, .ref aHt, .int nTh])), (aKi, .inl (cI, 12, .inl mKi)), (aOn, .inl (cI, 12, .inl mOn)), (aOt, .inl (cI, 12, .inl mOt)), (aWh, .inl (cI, 12, .inl mWh)), (aKn, .inl (cI, 4, .inl mKn)), (aHa, .inl (cI, 4, .inl mHa)), (aKt, .inl (cI, 4, .inl mKt)), (aHt, .inl (cI, 4, .inl mHt))] sz)) (va_A [(w0, .inr (8, [.ref aFk, .ref aFh, .int nSt, .ref aKi, .ref aOn, .ref aOt, .ref aWh, .int nIl, .int nBa, .int nGa, .ref aLe, .ref aWi, .ref aPr, .ref aPl, .ref aPt, .int nNs, .int nLi, .int nMi, .int nNx, .int nMv, .int nOn, .ref aKn, .ref aHa, .int nLa, .int nCl, .int nLn, .ref aKt, .ref aHt, .int nTh])), (aKi, .inl (cI, 12, .inl mKi)), (aOn, .inl (cI, 12, .inl mOn)), (aOt, .inl (cI, 12, .inl mOt)), (aWh, .inl (cI, 12, .inl mWh)), (aKn, .inl (cI, 4, .inl mKn)), (aHa, .inl (cI, 4, .inl mHa)), (aKt, .inl (cI, 4, .inl mKt)), (aHt, .inl (cI, 4, .inl mHt))] sz)) 0 0 (va_A [(w0, .inr (8, [.ref aFk, .ref aFh, .int nSt, .ref aKi, .ref aOn, .ref aOt, .ref aWh, .int nIl, .int nBa, .int nGa, .ref aLe, .ref aWi, .ref aPr, .ref aPl, .ref aPt, .int nNs, .int nLi, .int nMi, .int nNx, .int nMv, .int nOn, .ref aKn, .ref aHa, .int nLa, .int nCl, .int nLn, .ref aKt, .ref aHt, .int nTh])), (aKi, .inl (cI, 12, .inl mKi)), (aOn, .inl (cI, 12, .inl mOn)), (aOt, .inl (cI, 12, .inl mOt)), (aWh, .inl (cI, 12, .inl mWh)), (aKn, .inl (cI, 4, .inl mKn)), (aHa, .inl (cI, 4, .inl mHa)), (aKt, .inl (cI, 4, .inl mKt)), (aHt, .inl (cI, 4, .inl mHt))] sz) := by
  refine Met.ofW (cc := cX8_canClose) (maxL := 5) (ret := (some .boolean)) (by decide) rfl ?_
  intro p e s m args below meth c s₁ B hml hv
  obtain ⟨rfl, hsz, hP, hK, hD0, hG⟩ := hv
  have hx := B.exec
  have hb := B.bytes
  have hr := B.returns
  have hts := atoms_spec (ws := wsX8_canClose) B.pre
  have hown : s.vm.findClass RX8 = some m.cls := findClass_of_methodNamed B.named
  have hlocks := B.notSynchronized
  subst hsz
  have hD := hD0.self (sz := s.heap.size)
  generalize hAe : va_A [(w0, .inr (8, [.ref aFk, .ref aFh, .int nSt, .ref aKi, .ref aOn, .ref aOt, .ref aWh, .int nIl, .int nBa, .int nGa, .ref aLe, .ref aWi, .ref aPr, .ref aPl, .ref aPt, .int nNs, .int nLi, .int nMi, .int nNx, .int nMv, .int nOn, .ref aKn, .ref aHa, .int nLa, .int nCl, .int nLn, .ref aKt, .ref aHt, .int nTh])), (aKi, .inl (cI, 12, .inl mKi)), (aOn, .inl (cI, 12, .inl mOn)), (aOt, .inl (cI, 12, .inl mOt)), (aWh, .inl (cI, 12, .inl mWh)), (aKn, .inl (cI, 4, .inl mKn)), (aHa, .inl (cI, 4, .inl mHa)), (aKt, .inl (cI, 4, .inl mKt)), (aHt, .inl (cI, 4, .inl mHt))] s.heap.size = A at hD hG ⊢
  have hA : ∀ q : Nat, s.heap.size ≤ q → A q := fun q h => by rw [← hAe]; exact Or.inr h
  have hS : va_S A s.heap s.heap [] := va_S.rf
  have hP : va_P (dC, dI) vwCl [(w0, .inr (8, [.ref aFk, .ref aFh, .int nSt, .ref aKi, .ref aOn, .ref aOt, .ref aWh, .int nIl, .int nBa, .int nGa, .ref aLe, .ref aWi, .ref aPr, .ref aPl, .ref aPt, .int nNs, .int nLi, .int nMi, .int nNx, .int nMv, .int nOn, .ref aKn, .ref aHa, .int nLa, .int nCl, .int nLn, .ref aKt, .ref aHt, .int nTh])), (aKi, .inl (cI, 12, .inl mKi)), (aOn, .inl (cI, 12, .inl mOn)), (aOt, .inl (cI, 12, .inl mOt)), (aWh, .inl (cI, 12, .inl mWh)), (aKn, .inl (cI, 4, .inl mKn)), (aHa, .inl (cI, 4, .inl mHa)), (aKt, .inl (cI, 4, .inl mKt)), (aHt, .inl (cI, 4, .inl mHt))] s.heap := hP
  have hl := lv_entry ([.ref w0, .int p1]) (n := 5) (Nat.le_of_ble_eq_true rfl)
  rw [lg_entry_eq]
  generalize (lg_sl ([.ref w0, .int p1]) ++ List.replicate (5 - (lg_sl ([.ref w0, .int p1])).length) Slot.unset).toArray = ls at hl ⊢
  have hl : lv_has ls 5 [(0, .ref w0), (1, .int p1)] := hl
  refine lv_iconst (v := 0) hx hb dX8_canClose_0 (by decide) ?_
  refine lv_istore_n (lv' := [(2, .int (0 : Int32)), (0, .ref w0), (1, .int p1)]) hx hb dX8_canClose_1 rfl hl (by decide) rfl (fun ls hl => ?_)
  refine zNm (fun R9 Q9 hR9 hQ9 => ?_)
  have L2 : ∀ (n2 : Nat) (mKt1 : Nat → Int32) (mHt1 : Nat → Int32) (i1 : Int32), 0 ≤ i1.toInt → ((4 : Int32)).toInt - i1.toInt < n2 ∧ 0 < n2 → lX8_canClose_2_r nSt nIl nBa nGa nNs nLi nMi nNx nMv nOn nLa nCl nLn nTh mKi mOn mOt mWh mKn mHa mKt mHt p1 n2 mKt1 mHt1 i1 = rX8_canClose nSt nIl nBa nGa nNs nLi nMi nNx nMv nOn nLa nCl nLn nTh mKi mOn mOt mWh mKn mHa mKt mHt p1 → lX8_canClose_2_mKt nSt nIl nBa nGa nNs nLi nMi nNx nMv nOn nLa nCl nLn nTh mKi mOn mOt mWh mKn mHa mKt mHt p1 n2 mKt1 mHt1 i1 = oX8_canClose_mKt nSt nIl nBa nGa nNs nLi nMi nNx nMv nOn nLa nCl nLn nTh mKi mOn mOt mWh mKn mHa mKt mHt p1 → lX8_canClose_2_mHt nSt nIl nBa nGa nNs nLi nMi nNx nMv nOn nLa nCl nLn nTh mKi mOn mOt mWh mKn mHa mKt mHt p1 n2 mKt1 mHt1 i1 = oX8_canClose_mHt nSt nIl nBa nGa nNs nLi nMi nNx nMv nOn nLa nCl nLn nTh mKi mOn mOt mWh mKn mHa mKt mHt p1 → ∀ (H : Heap) (locs : List Loc) (ls : Array Slot), va_P (dC, dI) vwCl [(w0, .inr (8, [.ref aFk, .ref aFh, .int nSt, .ref aKi, .ref aOn, .ref aOt, .ref aWh, .int nIl, .int nBa, .int nGa, .ref aLe, .ref aWi, .ref aPr, .ref aPl, .ref aPt, .int nNs, .int nLi, .int nMi, .int nNx, .int nMv, .int nOn, .ref aKn, .ref aHa, .int nLa, .int nCl, .int nLn, .ref aKt, .ref aHt, .int nTh])), (aKi, .inl (cI, 12, .inl mKi)), (aOn, .inl (cI, 12, .inl mOn)), (aOt, .inl (cI, 12, .inl mOt)), (aWh, .inl (cI, 12, .inl mWh)), (aKn, .inl (cI, 4, .inl mKn)), (aHa, .inl (cI, 4, .inl mHa)), (aKt, .inl (cI, 4, .inl mKt1)), (aHt, .inl (cI, 4, .inl mHt1))] H → va_D A [(w0, .inr (8, [.ref aFk, .ref aFh, .int nSt, .ref aKi, .ref aOn, .ref aOt, .ref aWh, .int nIl, .int nBa, .int nGa, .ref aLe, .ref aWi, .ref aPr, .ref aPl, .ref aPt, .int nNs, .int nLi, .int nMi, .int nNx, .int nMv, .int nOn, .ref aKn, .ref aHa, .int nLa, .int nCl, .int nLn, .ref aKt, .ref aHt, .int nTh])), (aKi, .inl (cI, 12, .inl mKi)), (aOn, .inl (cI, 12, .inl mOn)), (aOt, .inl (cI, 12, .inl mOt)), (aWh, .inl (cI, 12, .inl mWh)), (aKn, .inl (cI, 4, .inl mKn)), (aHa, .inl (cI, 4, .inl mHa)), (aKt, .inl (cI, 4, .inl mKt1)), (aHt, .inl (cI, 4, .inl mHt1))] → va_S A s.heap H locs → lv_has ls 5 [(2, .int i1), (0, .ref w0), (1, .int p1)] → W p l e R9 s m ([.ref w0, .int p1] : List Value).toArray below meth c H locs 0 0 Q9 (F0 m 2 ls []) := by
    subst hR9; subst hQ9
    intro n2
    induction n2 with
    | zero => intro mKt1 mHt1 i1 hi0 hi2; exact absurd hi2.2 (by decide)
    | succ n2 ih2 =>
      intro mKt1 mHt1 i1 hi0 hi2 hres2_r hres2_mKt hres2_mHt H locs ls hP hD hS hl
      refine lv_iload_n hx hb dX8_canClose_2 rfl (lv_at hl 0 rfl) ?_
      refine lv_iconst (v := 4) hx hb dX8_canClose_3 (by decide) ?_
      refine zNm (fun R9 Q9 hR9 hQ9 => ?_)
      have J37 : qX8_canClose_37_r nSt nIl nBa nGa nNs nLi nMi nNx nMv nOn nLa nCl nLn nTh mKi mOn mOt mWh mKn mHa mKt mHt p1 mKt1 mHt1 i1 = rX8_canClose nSt nIl nBa nGa nNs nLi nMi nNx nMv nOn nLa nCl nLn nTh mKi mOn mOt mWh mKn mHa mKt mHt p1 → qX8_canClose_37_mKt nSt nIl nBa nGa nNs nLi nMi nNx nMv nOn nLa nCl nLn nTh mKi mOn mOt mWh mKn mHa mKt mHt p1 mKt1 mHt1 i1 = oX8_canClose_mKt nSt nIl nBa nGa nNs nLi nMi nNx nMv nOn nLa nCl nLn nTh mKi mOn mOt mWh mKn mHa mKt mHt p1 → qX8_canClose_37_mHt nSt nIl nBa nGa nNs nLi nMi nNx nMv nOn nLa nCl nLn nTh mKi mOn mOt mWh mKn mHa mKt mHt p1 mKt1 mHt1 i1 = oX8_canClose_mHt nSt nIl nBa nGa nNs nLi nMi nNx nMv nOn nLa nCl nLn nTh mKi mOn mOt mWh mKn mHa mKt mHt p1 → ∀ (H : Heap) (locs : List Loc) (ls : Array Slot), va_P (dC, dI) vwCl [(w0, .inr (8, [.ref aFk, .ref aFh, .int nSt, .ref aKi, .ref aOn, .ref aOt, .ref aWh, .int nIl, .int nBa, .int nGa, .ref aLe, .ref aWi, .ref aPr, .ref aPl, .ref aPt, .int nNs, .int nLi, .int nMi, .int nNx, .int nMv, .int nOn, .ref aKn, .ref aHa, .int nLa, .int nCl, .int nLn, .ref aKt, .ref aHt, .int nTh])), (aKi, .inl (cI, 12, .inl mKi)), (aOn, .inl (cI, 12, .inl mOn)), (aOt, .inl (cI, 12, .inl mOt)), (aWh, .inl (cI, 12, .inl mWh)), (aKn, .inl (cI, 4, .inl mKn)), (aHa, .inl (cI, 4, .inl mHa)), (aKt, .inl (cI, 4, .inl mKt1)), (aHt, .inl (cI, 4, .inl mHt1))] H → va_D A [(w0, .inr (8, [.ref aFk, .ref aFh, .int nSt, .ref aKi, .ref aOn, .ref aOt, .ref aWh, .int nIl, .int nBa, .int nGa, .ref aLe, .ref aWi, .ref aPr, .ref aPl, .ref aPt, .int nNs, .int nLi, .int nMi, .int nNx, .int nMv, .int nOn, .ref aKn, .ref aHa, .int nLa, .int nCl, .int nLn, .ref aKt, .ref aHt, .int nTh])), (aKi, .inl (cI, 12, .inl mKi)), (aOn, .inl (cI, 12, .inl mOn)), (aOt, .inl (cI, 12, .inl mOt)), (aWh, .inl (cI, 12, .inl mWh)), (aKn, .inl (cI, 4, .inl mKn)), (aHa, .inl (cI, 4, .inl mHa)), (aKt, .inl (cI, 4, .inl mKt1)), (aHt, .inl (cI, 4, .inl mHt1))] → va_S A s.heap H locs → lv_has ls 5 [(2, .int i1), (0, .ref w0), (1, .int p1)] → W p l e R9 s m ([.ref w0, .int p1] : List Value).toArray below meth c H locs 0 0 Q9 (F0 m 37 ls []) := by
        subst hR9; subst hQ9
        intro hj37_r hj37_mKt hj37_mHt
        intro H locs ls hP hD hS hl
        refine lv_iconst (v := 1) hx hb dX8_canClose_37 (by decide) ?_
        refine lv_istore_n (lv' := [(2, .int (1 : Int32)), (0, .ref w0), (1, .int p1)]) hx hb dX8_canClose_38 rfl hl (by decide) rfl (fun ls hl => ?_)
        refine lv_iload_n hx hb dX8_canClose_39 rfl (lv_at hl 2 rfl) ?_
        refine lv_istore_n (lv' := [(3, .int p1), (2, .int (1 : Int32)), (0, .ref w0), (1, .int p1)]) hx hb dX8_canClose_40 rfl hl (by decide) rfl (fun ls hl => ?_)
        refine zNm (fun R9 Q9 hR9 hQ9 => ?_)
        have L41 : ∀ (n41 : Nat) (mKt2 : Nat → Int32) (mHt2 : Nat → Int32) (ca1 : Int32) (k1 : Int32), 0 ≤ k1.toInt → (nSt).toInt - k1.toInt < n41 ∧ 0 < n41 → ca1 = 0 ∨ ca1 = 1 → lX8_canClose_41_r nSt nIl nBa nGa nNs nLi nMi nNx nMv nOn nLa nCl nLn nTh mKi mOn mOt mWh mKn mHa mKt mHt p1 mKt1 mHt1 i1 n41 mKt2 mHt2 ca1 k1 = rX8_canClose nSt nIl nBa nGa nNs nLi nMi nNx nMv nOn nLa nCl nLn nTh mKi mOn mOt mWh mKn mHa mKt mHt p1 → lX8_canClose_41_mKt nSt nIl nBa nGa nNs nLi nMi nNx nMv nOn nLa nCl nLn nTh mKi mOn mOt mWh mKn mHa mKt mHt p1 mKt1 mHt1 i1 n41 mKt2 mHt2 ca1 k1 = oX8_canClose_mKt nSt nIl nBa nGa nNs nLi nMi nNx nMv nOn nLa nCl nLn nTh mKi mOn mOt mWh mKn mHa mKt mHt p1 → lX8_canClose_41_mHt nSt nIl nBa nGa nNs nLi nMi nNx nMv nOn nLa nCl nLn nTh mKi mOn mOt mWh mKn mHa mKt mHt p1 mKt1 mHt1 i1 n41 mKt2 mHt2 ca1 k1 = oX8_canClose_mHt nSt nIl nBa nGa nNs nLi nMi nNx nMv nOn nLa nCl nLn nTh mKi mOn mOt mWh mKn mHa mKt mHt p1 → ∀ (H : Heap) (locs : List Loc) (ls : Array Slot), va_P (dC, dI) vwCl [(w0, .inr (8, [.ref aFk, .ref aFh, .int nSt, .ref aKi, .ref aOn, .ref aOt, .ref aWh, .int nIl, .int nBa, .int nGa, .ref aLe, .ref aWi, .ref aPr, .ref aPl, .ref aPt, .int nNs, .int nLi, .int nMi, .int nNx, .int nMv, .int nOn, .ref aKn, .ref aHa, .int nLa, .int nCl, .int nLn, .ref aKt, .ref aHt, .int nTh])), (aKi, .inl (cI, 12, .inl mKi)), (aOn, .inl (cI, 12, .inl mOn)), (aOt, .inl (cI, 12, .inl mOt)), (aWh, .inl (cI, 12, .inl mWh)), (aKn, .inl (cI, 4, .inl mKn)), (aHa, .inl (cI, 4, .inl mHa)), (aKt, .inl (cI, 4, .inl mKt2)), (aHt, .inl (cI, 4, .inl mHt2))] H → va_D A [(w0, .inr (8, [.ref aFk, .ref aFh, .int nSt, .ref aKi, .ref aOn, .ref aOt, .ref aWh, .int nIl, .int nBa, .int nGa, .ref aLe, .ref aWi, .ref aPr, .ref aPl, .ref aPt, .int nNs, .int nLi, .int nMi, .int nNx, .int nMv, .int nOn, .ref aKn, .ref aHa, .int nLa, .int nCl, .int nLn, .ref aKt, .ref aHt, .int nTh])), (aKi, .inl (cI, 12, .inl mKi)), (aOn, .inl (cI, 12, .inl mOn)), (aOt, .inl (cI, 12, .inl mOt)), (aWh, .inl (cI, 12, .inl mWh)), (aKn, .inl (cI, 4, .inl mKn)), (aHa, .inl (cI, 4, .inl mHa)), (aKt, .inl (cI, 4, .inl mKt2)), (aHt, .inl (cI, 4, .inl mHt2))] → va_S A s.heap H locs → lv_has ls 5 [(3, .int k1), (2, .int ca1), (0, .ref w0), (1, .int p1)] → W p l e R9 s m ([.ref w0, .int p1] : List Value).toArray below meth c H locs 0 0 Q9 (F0 m 41 ls []) := by
          subst hR9; subst hQ9
          intro n41
          induction n41 with
          | zero => intro mKt2 mHt2 ca1 k1 hk0 hk2 hk3; exact absurd hk2.2 (by decide)
          | succ n41 ih41 =>
            intro mKt2 mHt2 ca1 k1 hk0 hk2 hk3 hres41_r hres41_mKt hres41_mHt H locs ls hP hD hS hl
            refine lv_iload_n hx hb dX8_canClose_41 rfl (lv_at hl 0 rfl) ?_
            refine lv_aload_n hx hb dX8_canClose_42 rfl (lv_at hl 2 rfl) ?_
            refine va_get (D := (dC, dI)) (ci := 8) (v := .int nSt) (C := RX8) (T := TX8) (N := 29) hx hb hts iX8_canClose_X8 hown hK hP 0 rfl rfl 2 (by decide) (hts _ kX8_canClose_1) (fun _ h9 => h9) rfl dX8_canClose_43 ?_
            refine lv_icmp_ge (tgt := 174) hx hb dX8_canClose_46 (by decide) (fun c_1 => ?_) (fun c_1 => ?_)
            · refine lv_iload_n hx hb dX8_canClose_174 rfl (lv_at hl 1 rfl) ?_
              exact W.zret (v := ca1) hx hb hr (zNar (by assumption)) (fun t ht hW => ⟨⟨ca1, (mKt2, mHt2), rfl, ⟨(by rw [← hres41_r]; rw [lX8_canClose_41_r]; rw [if_pos c_1]), (by rw [← hres41_mKt]; rw [lX8_canClose_41_mKt]; rw [if_pos c_1]), (by rw [← hres41_mHt]; rw [lX8_canClose_41_mHt]; rw [if_pos c_1])⟩, (by (try dsimp only); rw [ht]; exact hP.sub [0, 1, 2, 3, 4, 5, 6, 7, 8] rfl), va_K.moved hW.alike hK, (by (try dsimp only); exact hD.sub [0, 1, 2, 3, 4, 5, 6, 7, 8] (by decide) rfl)⟩, hS.F ht⟩) hS.2.2 dX8_canClose_175
            · refine lv_aload_n hx hb dX8_canClose_49 rfl (lv_at hl 2 rfl) ?_
              refine va_get (D := (dC, dI)) (ci := 8) (v := .ref aKi) (C := RX8) (T := TX8) (N := 29) hx hb hts iX8_canClose_X8 hown hK hP 0 rfl rfl 3 (by decide) (hts _ kX8_canClose_2) (fun _ h9 => h9) rfl dX8_canClose_50 ?_
              refine lv_iload_n hx hb dX8_canClose_53 rfl (lv_at hl 0 rfl) ?_
              refine va_iald hx hb hK hP 1 0 rfl rfl (i := k1) (by first | assumption | exact zin_a (by assumption) (by assumption) (by assumption) | exact zin_c (by assumption) (by assumption) (by assumption) | exact zin_c (by assumption) (by assumption) (by decide) | exact zin_e (by assumption) (by assumption) (by decide) | exact zin_e (by assumption) (by assumption) (by assumption) | exact zin_f (by assumption) (by assumption) (by assumption)) dX8_canClose_54 ?_
              refine lv_iconst (v := 2) hx hb dX8_canClose_55 (by decide) ?_
              refine zNm (fun R9 Q9 hR9 hQ9 => ?_)
              have J74 : ∀ (v74_0 : Int32), v74_0 = (jX8_canClose_74_0 nSt nIl nBa nGa nNs nLi nMi nNx nMv nOn nLa nCl nLn nTh mKi mOn mOt mWh mKn mHa mKt mHt p1 mKt1 mHt1 i1 mKt2 mHt2 ca1 k1) → ∀ (H : Heap) (locs : List Loc) (ls : Array Slot), va_P (dC, dI) vwCl [(w0, .inr (8, [.ref aFk, .ref aFh, .int nSt, .ref aKi, .ref aOn, .ref aOt, .ref aWh, .int nIl, .int nBa, .int nGa, .ref aLe, .ref aWi, .ref aPr, .ref aPl, .ref aPt, .int nNs, .int nLi, .int nMi, .int nNx, .int nMv, .int nOn, .ref aKn, .ref aHa, .int nLa, .int nCl, .int nLn, .ref aKt, .ref aHt, .int nTh])), (aKi, .inl (cI, 12, .inl mKi)), (aOn, .inl (cI, 12, .inl mOn)), (aOt, .inl (cI, 12, .inl mOt)), (aWh, .inl (cI, 12, .inl mWh)), (aKn, .inl (cI, 4, .inl mKn)), (aHa, .inl (cI, 4, .inl mHa)), (aKt, .inl (cI, 4, .inl mKt2)), (aHt, .inl (cI, 4, .inl mHt2))] H → va_D A [(w0, .inr (8, [.ref aFk, .ref aFh, .int nSt, .ref aKi, .ref aOn, .ref aOt, .ref aWh, .int nIl, .int nBa, .int nGa, .ref aLe, .ref aWi, .ref aPr, .ref aPl, .ref aPt, .int nNs, .int nLi, .int nMi, .int nNx, .int nMv, .int nOn, .ref aKn, .ref aHa, .int nLa, .int nCl, .int nLn, .ref aKt, .ref aHt, .int nTh])), (aKi, .inl (cI, 12, .inl mKi)), (aOn, .inl (cI, 12, .inl mOn)), (aOt, .inl (cI, 12, .inl mOt)), (aWh, .inl (cI, 12, .inl mWh)), (aKn, .inl (cI, 4, .inl mKn)), (aHa, .inl (cI, 4, .inl mHa)), (aKt, .inl (cI, 4, .inl mKt2)), (aHt, .inl (cI, 4, .inl mHt2))] → va_S A s.heap H locs → lv_has ls 5 [(3, .int k1), (2, .int ca1), (0, .ref w0), (1, .int p1)] → W p l e R9 s m ([.ref w0, .int p1] : List Value).toArray below meth c H locs 0 0 Q9 (F0 m 74 ls [.int v74_0]) := by
                subst hR9; subst hQ9
                intro v74_0 hvv74_0
                rw [hvv74_0]; clear hvv74_0 v74_0
                intro H locs ls hP hD hS hl
                refine lv_istore (lv' := [(4, .int (jX8_canClose_74_0 nSt nIl nBa nGa nNs nLi nMi nNx nMv nOn nLa nCl nLn nTh mKi mOn mOt mWh mKn mHa mKt mHt p1 mKt1 mHt1 i1 mKt2 mHt2 ca1 k1)), (3, .int k1), (2, .int ca1), (0, .ref w0), (1, .int p1)]) hx hb dX8_canClose_74 hl (by decide) rfl (fun ls hl => ?_)
                refine lv_iload_n hx hb dX8_canClose_76 rfl (lv_at hl 2 rfl) ?_
                refine zNm (fun R9 Q9 hR9 hQ9 => ?_)
                have J122 : ∀ (v122_0 : Int32), v122_0 = (jX8_canClose_122_0 nSt nIl nBa nGa nNs nLi nMi nNx nMv nOn nLa nCl nLn nTh mKi mOn mOt mWh mKn mHa mKt mHt p1 mKt1 mHt1 i1 mKt2 mHt2 ca1 k1) → ∀ (H : Heap) (locs : List Loc) (ls : Array Slot), va_P (dC, dI) vwCl [(w0, .inr (8, [.ref aFk, .ref aFh, .int nSt, .ref aKi, .ref aOn, .ref aOt, .ref aWh, .int nIl, .int nBa, .int nGa, .ref aLe, .ref aWi, .ref aPr, .ref aPl, .ref aPt, .int nNs, .int nLi, .int nMi, .int nNx, .int nMv, .int nOn, .ref aKn, .ref aHa, .int nLa, .int nCl, .int nLn, .ref aKt, .ref aHt, .int nTh])), (aKi, .inl (cI, 12, .inl mKi)), (aOn, .inl (cI, 12, .inl mOn)), (aOt, .inl (cI, 12, .inl mOt)), (aWh, .inl (cI, 12, .inl mWh)), (aKn, .inl (cI, 4, .inl mKn)), (aHa, .inl (cI, 4, .inl mHa)), (aKt, .inl (cI, 4, .inl mKt2)), (aHt, .inl (cI, 4, .inl mHt2))] H → va_D A [(w0, .inr (8, [.ref aFk, .ref aFh, .int nSt, .ref aKi, .ref aOn, .ref aOt, .ref aWh, .int nIl, .int nBa, .int nGa, .ref aLe, .ref aWi, .ref aPr, .ref aPl, .ref aPt, .int nNs, .int nLi, .int nMi, .int nNx, .int nMv, .int nOn, .ref aKn, .ref aHa, .int nLa, .int nCl, .int nLn, .ref aKt, .ref aHt, .int nTh])), (aKi, .inl (cI, 12, .inl mKi)), (aOn, .inl (cI, 12, .inl mOn)), (aOt, .inl (cI, 12, .inl mOt)), (aWh, .inl (cI, 12, .inl mWh)), (aKn, .inl (cI, 4, .inl mKn)), (aHa, .inl (cI, 4, .inl mHa)), (aKt, .inl (cI, 4, .inl mKt2)), (aHt, .inl (cI, 4, .inl mHt2))] → va_S A s.heap H locs → lv_has ls 5 [(4, .int (jX8_canClose_74_0 nSt nIl nBa nGa nNs nLi nMi nNx nMv nOn nLa nCl nLn nTh mKi mOn mOt mWh mKn mHa mKt mHt p1 mKt1 mHt1 i1 mKt2 mHt2 ca1 k1)), (3, .int k1), (2, .int ca1), (0, .ref w0), (1, .int p1)] → W p l e R9 s m ([.ref w0, .int p1] : List Value).toArray below meth c H locs 0 0 Q9 (F0 m 122 ls [.int v122_0]) := by
                  subst hR9; subst hQ9
                  intro v122_0 hvv122_0
                  rw [hvv122_0]; clear hvv122_0 v122_0
                  intro H locs ls hP hD hS hl
                  refine lv_istore_n (lv' := [(2, .int (jX8_canClose_122_0 nSt nIl nBa nGa nNs nLi nMi nNx nMv nOn nLa nCl nLn nTh mKi mOn mOt mWh mKn mHa mKt mHt p1 mKt1 mHt1 i1 mKt2 mHt2 ca1 k1)), (4, .int (jX8_canClose_74_0 nSt nIl nBa nGa nNs nLi nMi nNx nMv nOn nLa nCl nLn nTh mKi mOn mOt mWh mKn mHa mKt mHt p1 mKt1 mHt1 i1 mKt2 mHt2 ca1 k1)), (3, .int k1), (0, .ref w0), (1, .int p1)]) hx hb dX8_canClose_122 rfl hl (by decide) rfl (fun ls hl => ?_)
                  refine lv_iload_n hx hb dX8_canClose_123 rfl (lv_at hl 0 rfl) ?_
                  refine zNm (fun R9 Q9 hR9 hQ9 => ?_)
                  have J167 : ∀ (v167_0 : Int32), v167_0 = (jX8_canClose_167_0 nSt nIl nBa nGa nNs nLi nMi nNx nMv nOn nLa nCl nLn nTh mKi mOn mOt mWh mKn mHa mKt mHt p1 mKt1 mHt1 i1 mKt2 mHt2 ca1 k1) → ∀ (v167_1 : (Nat → Int32)), v167_1 = (jX8_canClose_167_1 nSt nIl nBa nGa nNs nLi nMi nNx nMv nOn nLa nCl nLn nTh mKi mOn mOt mWh mKn mHa mKt mHt p1 mKt1 mHt1 i1 mKt2 mHt2 ca1 k1) → ∀ (v167_2 : (Nat → Int32)), v167_2 = (jX8_canClose_167_2 nSt nIl nBa nGa nNs nLi nMi nNx nMv nOn nLa nCl nLn nTh mKi mOn mOt mWh mKn mHa mKt mHt p1 mKt1 mHt1 i1 mKt2 mHt2 ca1 k1) → ∀ (H : Heap) (locs : List Loc) (ls : Array Slot), va_P (dC, dI) vwCl [(w0, .inr (8, [.ref aFk, .ref aFh, .int nSt, .ref aKi, .ref aOn, .ref aOt, .ref aWh, .int nIl, .int nBa, .int nGa, .ref aLe, .ref aWi, .ref aPr, .ref aPl, .ref aPt, .int nNs, .int nLi, .int nMi, .int nNx, .int nMv, .int nOn, .ref aKn, .ref aHa, .int nLa, .int nCl, .int nLn, .ref aKt, .ref aHt, .int nTh])), (aKi, .inl (cI, 12, .inl mKi)), (aOn, .inl (cI, 12, .inl mOn)), (aOt, .inl (cI, 12, .inl mOt)), (aWh, .inl (cI, 12, .inl mWh)), (aKn, .inl (cI, 4, .inl mKn)), (aHa, .inl (cI, 4, .inl mHa)), (aKt, .inl (cI, 4, .inl v167_1)), (aHt, .inl (cI, 4, .inl v167_2))] H → va_D A [(w0, .inr (8, [.ref aFk, .ref aFh, .int nSt, .ref aKi, .ref aOn, .ref aOt, .ref aWh, .int nIl, .int nBa, .int nGa, .ref aLe, .ref aWi, .ref aPr, .ref aPl, .ref aPt, .int nNs, .int nLi, .int nMi, .int nNx, .int nMv, .int nOn, .ref aKn, .ref aHa, .int nLa, .int nCl, .int nLn, .ref aKt, .ref aHt, .int nTh])), (aKi, .inl (cI, 12, .inl mKi)), (aOn, .inl (cI, 12, .inl mOn)), (aOt, .inl (cI, 12, .inl mOt)), (aWh, .inl (cI, 12, .inl mWh)), (aKn, .inl (cI, 4, .inl mKn)), (aHa, .inl (cI, 4, .inl mHa)), (aKt, .inl (cI, 4, .inl v167_1)), (aHt, .inl (cI, 4, .inl v167_2))] → va_S A s.heap H locs → lv_has ls 5 [(2, .int (jX8_canClose_122_0 nSt nIl nBa nGa nNs nLi nMi nNx nMv nOn nLa nCl nLn nTh mKi mOn mOt mWh mKn mHa mKt mHt p1 mKt1 mHt1 i1 mKt2 mHt2 ca1 k1)), (4, .int (jX8_canClose_74_0 nSt nIl nBa nGa nNs nLi nMi nNx nMv nOn nLa nCl nLn nTh mKi mOn mOt mWh mKn mHa mKt mHt p1 mKt1 mHt1 i1 mKt2 mHt2 ca1 k1)), (3, .int k1), (0, .ref w0), (1, .int p1)] → W p l e R9 s m ([.ref w0, .int p1] : List Value).toArray below meth c H locs 0 0 Q9 (F0 m 167 ls [.int v167_0]) := by
                    subst hR9; subst hQ9
                    intro v167_0 hvv167_0
                    rw [hvv167_0]; clear hvv167_0 v167_0
                    intro v167_1 hvv167_1
                    rw [hvv167_1]; clear hvv167_1 v167_1
                    intro v167_2 hvv167_2
                    rw [hvv167_2]; clear hvv167_2 v167_2
                    intro H locs ls hP hD hS hl
                    refine lv_istore_n (lv' := [(2, .int (jX8_canClose_167_0 nSt nIl nBa nGa nNs nLi nMi nNx nMv nOn nLa nCl nLn nTh mKi mOn mOt mWh mKn mHa mKt mHt p1 mKt1 mHt1 i1 mKt2 mHt2 ca1 k1)), (4, .int (jX8_canClose_74_0 nSt nIl nBa nGa nNs nLi nMi nNx nMv nOn nLa nCl nLn nTh mKi mOn mOt mWh mKn mHa mKt mHt p1 mKt1 mHt1 i1 mKt2 mHt2 ca1 k1)), (3, .int k1), (0, .ref w0), (1, .int p1)]) hx hb dX8_canClose_167 rfl hl (by decide) rfl (fun ls hl => ?_)
                    refine lv_iinc (v := (k1 + 1)) (lv' := [(3, .int (k1 + 1)), (2, .int (jX8_canClose_167_0 nSt nIl nBa nGa nNs nLi nMi nNx nMv nOn nLa nCl nLn nTh mKi mOn mOt mWh mKn mHa mKt mHt p1 mKt1 mHt1 i1 mKt2 mHt2 ca1 k1)), (4, .int (jX8_canClose_74_0 nSt nIl nBa nGa nNs nLi nMi nNx nMv nOn nLa nCl nLn nTh mKi mOn mOt mWh mKn mHa mKt mHt p1 mKt1 mHt1 i1 mKt2 mHt2 ca1 k1)), (0, .ref w0), (1, .int p1)]) hx hb dX8_canClose_168 hl (k := 2) rfl rfl (by decide) rfl (fun ls hl => ?_)
                    refine lv_goto (tgt := 41) hx hb dX8_canClose_171 (by decide) ?_
                    exact ih41 (jX8_canClose_167_1 nSt nIl nBa nGa nNs nLi nMi nNx nMv nOn nLa nCl nLn nTh mKi mOn mOt mWh mKn mHa mKt mHt p1 mKt1 mHt1 i1 mKt2 mHt2 ca1 k1) (jX8_canClose_167_2 nSt nIl nBa nGa nNs nLi nMi nNx nMv nOn nLa nCl nLn nTh mKi mOn mOt mWh mKn mHa mKt mHt p1 mKt1 mHt1 i1 mKt2 mHt2 ca1 k1) (jX8_canClose_167_0 nSt nIl nBa nGa nNs nLi nMi nNx nMv nOn nLa nCl nLn nTh mKi mOn mOt mWh mKn mHa mKt mHt p1 mKt1 mHt1 i1 mKt2 mHt2 ca1 k1) (k1 + 1) (by have h9 := zInc (x := k1) (y := nSt) (by assumption); omega) (by have h9 := zInc (x := k1) (y := nSt) (by assumption); have h8 := zGo (x := k1) (y := nSt) (by assumption); omega) (by apply bjX8_canClose_167_0) (by rw [← hres41_r]; rw [lX8_canClose_41_r]; rw [if_neg c_1]) (by rw [← hres41_mKt]; rw [lX8_canClose_41_mKt]; rw [if_neg c_1]) (by rw [← hres41_mHt]; rw [lX8_canClose_41_mHt]; rw [if_neg c_1]) _ _ _ hP hD hS (lv_sub hl [0, 1, 3, 4] rfl)
                  subst hR9; subst hQ9
                  refine lv_if_eq (tgt := 166) hx hb dX8_canClose_124 (by decide) (fun c_2 => ?_) (fun c_2 => ?_)
                  · refine lv_iconst (v := 0) hx hb dX8_canClose_166 (by decide) ?_
                    exact J167 (0 : Int32) (by unfold jX8_canClose_167_0; rw [if_pos c_2]) mKt2 (by unfold jX8_canClose_167_1; rw [if_pos c_2]) mHt2 (by unfold jX8_canClose_167_2; rw [if_pos c_2]) _ _ _ hP hD hS (lv_sub hl [0, 1, 2, 3, 4] rfl)
                  · refine lv_aload_n hx hb dX8_canClose_127 rfl (lv_at hl 3 rfl) ?_
                    refine va_get (D := (dC, dI)) (ci := 8) (v := .ref aKi) (C := RX8) (T := TX8) (N := 29) hx hb hts iX8_canClose_X8 hown hK hP 0 rfl rfl 3 (by decide) (hts _ kX8_canClose_2) (fun _ h9 => h9) rfl dX8_canClose_128 ?_
                    refine lv_iload_n hx hb dX8_canClose_131 rfl (lv_at hl 2 rfl) ?_
                    refine va_iald hx hb hK hP 1 0 rfl rfl (i := k1) (by first | assumption | exact zin_a (by assumption) (by assumption) (by assumption) | exact zin_c (by assumption) (by assumption) (by assumption) | exact zin_c (by assumption) (by assumption) (by decide) | exact zin_e (by assumption) (by assumption) (by decide) | exact zin_e (by assumption) (by assumption) (by assumption) | exact zin_f (by assumption) (by assumption) (by assumption)) dX8_canClose_132 ?_
                    refine lv_if_ne (tgt := 144) hx hb dX8_canClose_133 (by decide) (fun c_3 => ?_) (fun c_3 => ?_)
                    · refine lv_aload_n hx hb dX8_canClose_144 rfl (lv_at hl 3 rfl) ?_
                      refine va_get (D := (dC, dI)) (ci := 8) (v := .ref aKi) (C := RX8) (T := TX8) (N := 29) hx hb hts iX8_canClose_X8 hown hK hP 0 rfl rfl 3 (by decide) (hts _ kX8_canClose_2) (fun _ h9 => h9) rfl dX8_canClose_145 ?_
                      refine lv_iload_n hx hb dX8_canClose_148 rfl (lv_at hl 2 rfl) ?_
                      refine va_iald hx hb hK hP 1 0 rfl rfl (i := k1) (by first | assumption | exact zin_a (by assumption) (by assumption) (by assumption) | exact zin_c (by assumption) (by assumption) (by assumption) | exact zin_c (by assumption) (by assumption) (by decide) | exact zin_e (by assumption) (by assumption) (by decide) | exact zin_e (by assumption) (by assumption) (by assumption) | exact zin_f (by assumption) (by assumption) (by assumption)) dX8_canClose_149 ?_
                      refine lv_iconst (v := 1) hx hb dX8_canClose_150 (by decide) ?_
                      refine lv_icmp_ne (tgt := 162) hx hb dX8_canClose_151 (by decide) (fun c_4 => ?_) (fun c_4 => ?_)
                      · refine lv_iconst (v := 1) hx hb dX8_canClose_162 (by decide) ?_
                        refine lv_goto (tgt := 167) hx hb dX8_canClose_163 (by decide) ?_
                        exact J167 (1 : Int32) (by unfold jX8_canClose_167_0; rw [if_neg c_2, if_neg c_3, if_neg c_4]) mKt2 (by unfold jX8_canClose_167_1; rw [if_neg c_2, if_neg c_3]) mHt2 (by unfold jX8_canClose_167_2; rw [if_neg c_2, if_neg c_3, if_neg c_4]) _ _ _ hP hD hS (lv_sub hl [0, 1, 2, 3, 4] rfl)
                      · refine lv_aload_n hx hb dX8_canClose_154 rfl (lv_at hl 3 rfl) ?_
                        refine lv_iload_n hx hb dX8_canClose_155 rfl (lv_at hl 2 rfl) ?_
                        refine zkI (wr := [(aKi, .inl (cI, 12, .inl mKi)), (aOn, .inl (cI, 12, .inl mOn)), (aKn, .inl (cI, 4, .inl mKn)), (aHa, .inl (cI, 4, .inl mHa)), (aKt, .inl (cI, 4, .inl mKt2))]) (r0 := (rX8_canGive nSt nIl nBa nGa nNs nLi nMi nNx nMv nOn nLa nCl nLn nTh mOt mWh mHt2 k1)) (u0 := ((oX8_canGive_mHt nSt nIl nBa nGa nNs nLi nMi nNx nMv nOn nLa nCl nLn nTh mOt mWh mHt2 k1))) (va_runV (As := [.int k1]) (rest := []) ⟨hx, hb, hml, hown, hts⟩ (c_X8_canGive l dC dI cI cJ w0 aOt aWh aHt aFk aFh aKi aOn aLe aWi aPr aPl aPt aKn aHa aKt H.size nSt nIl nBa nGa nNs nLi nMi nNx nMv nOn nLa nCl nLn nTh mOt mWh mHt2 k1 (by first | assumption | exact zin_a (by assumption) (by assumption) (by assumption) | exact zin_c (by assumption) (by assumption) (by assumption) | exact zin_c (by assumption) (by assumption) (by decide) | exact zin_e (by assumption) (by assumption) (by decide) | exact zin_e (by assumption) (by assumption) (by assumption) | exact zin_f (by assumption) (by assumption) (by assumption)) (hWH _ (zin_lt (by first | assumption | exact zin_a (by assumption) (by assumption) (by assumption) | exact zin_c (by assumption) (by assumption) (by assumption) | exact zin_c (by assumption) (by assumption) (by decide) | exact zin_e (by assumption) (by assumption) (by decide) | exact zin_e (by assumption) (by assumption) (by assumption) | exact zin_f (by assumption) (by assumption) (by assumption))))) (cwV 1 hts gX8_canClose_X8_canGive rfl rfl rfl (by decide +kernel) ⟨Nat.le_of_ble_eq_true rfl, Nat.le_of_ble_eq_true rfl⟩) (zpV hK hP hD hS hA hG [0, 3, 4, 8] (by decide) rfl 8 0 rfl rfl) rfl rfl hl.1 rfl (lv_room (Nat.le_of_ble_eq_true rfl)) dX8_canClose_156 ⟨Nat.le_of_ble_eq_true rfl, Nat.le_of_ble_eq_true rfl⟩) (fun r u h => ⟨h.1, h.2⟩) hP hD hS hA [0, 3, 4, 8] [1, 2, 5, 6, 7] rfl rfl (by decide) (by decide) (fun H locs hP hD hS => ?_)
                        try dsimp only [List.cons_append, List.nil_append] at hP hD
                        have hP : va_P (dC, dI) vwCl [(aKi, .inl (cI, 12, .inl mKi)), (aOn, .inl (cI, 12, .inl mOn)), (aKn, .inl (cI, 4, .inl mKn)), (aHa, .inl (cI, 4, .inl mHa)), (aKt, .inl (cI, 4, .inl mKt2)), (w0, .inr (8, [.ref aFk, .ref aFh, .int nSt, .ref aKi, .ref aOn, .ref aOt, .ref aWh, .int nIl, .int nBa, .int nGa, .ref aLe, .ref aWi, .ref aPr, .ref aPl, .ref aPt, .int nNs, .int nLi, .int nMi, .int nNx, .int nMv, .int nOn, .ref aKn, .ref aHa, .int nLa, .int nCl, .int nLn, .ref aKt, .ref aHt, .int nTh])), (aOt, .inl (cI, 12, .inl mOt)), (aWh, .inl (cI, 12, .inl mWh)), (aHt, .inl (cI, 4, .inl (oX8_canGive_mHt nSt nIl nBa nGa nNs nLi nMi nNx nMv nOn nLa nCl nLn nTh mOt mWh mHt2 k1)))] H := hP
                        have hD : va_D A [(aKi, .inl (cI, 12, .inl mKi)), (aOn, .inl (cI, 12, .inl mOn)), (aKn, .inl (cI, 4, .inl mKn)), (aHa, .inl (cI, 4, .inl mHa)), (aKt, .inl (cI, 4, .inl mKt2)), (w0, .inr (8, [.ref aFk, .ref aFh, .int nSt, .ref aKi, .ref aOn, .ref aOt, .ref aWh, .int nIl, .int nBa, .int nGa, .ref aLe, .ref aWi, .ref aPr, .ref aPl, .ref aPt, .int nNs, .int nLi, .int nMi, .int nNx, .int nMv, .int nOn, .ref aKn, .ref aHa, .int nLa, .int nCl, .int nLn, .ref aKt, .ref aHt, .int nTh])), (aOt, .inl (cI, 12, .inl mOt)), (aWh, .inl (cI, 12, .inl mWh)), (aHt, .inl (cI, 4, .inl (oX8_canGive_mHt nSt nIl nBa nGa nNs nLi nMi nNx nMv nOn nLa nCl nLn nTh mOt mWh mHt2 k1)))] := hD
                        refine lv_if_eq (tgt := 166) hx hb dX8_canClose_159 (by decide) (fun c_5 => ?_) (fun c_5 => ?_)
                        · refine lv_iconst (v := 0) hx hb dX8_canClose_166 (by decide) ?_
                          exact J167 (0 : Int32) (by unfold jX8_canClose_167_0; rw [if_neg c_2, if_neg c_3, if_pos c_4, if_pos c_5]) mKt2 (by unfold jX8_canClose_167_1; rw [if_neg c_2, if_neg c_3]) (oX8_canGive_mHt nSt nIl nBa nGa nNs nLi nMi nNx nMv nOn nLa nCl nLn nTh mOt mWh mHt2 k1) (by unfold jX8_canClose_167_2; rw [if_neg c_2, if_neg c_3, if_pos c_4]) _ _ _ (hP.sub [5, 0, 1, 6, 7, 2, 3, 4, 8] rfl) (hD.sub [5, 0, 1, 6, 7, 2, 3, 4, 8] (by decide) rfl) hS (lv_sub hl [0, 1, 2, 3, 4] rfl)
                        · refine lv_iconst (v := 1) hx hb dX8_canClose_162 (by decide) ?_
                          refine lv_goto (tgt := 167) hx hb dX8_canClose_163 (by decide) ?_
                          exact J167 (1 : Int32) (by unfold jX8_canClose_167_0; rw [if_neg c_2, if_neg c_3, if_pos c_4, if_neg c_5]) mKt2 (by unfold jX8_canClose_167_1; rw [if_neg c_2, if_neg c_3]) (oX8_canGive_mHt nSt nIl nBa nGa nNs nLi nMi nNx nMv nOn nLa nCl nLn nTh mOt mWh mHt2 k1) (by unfold jX8_canClose_167_2; rw [if_neg c_2, if_neg c_3, if_pos c_4]) _ _ _ (hP.sub [5, 0, 1, 6, 7, 2, 3, 4, 8] rfl) (hD.sub [5, 0, 1, 6, 7, 2, 3, 4, 8] (by decide) rfl) hS (lv_sub hl [0, 1, 2, 3, 4] rfl)
                    · refine lv_aload_n hx hb dX8_canClose_136 rfl (lv_at hl 3 rfl) ?_
                      refine lv_iload_n hx hb dX8_canClose_137 rfl (lv_at hl 2 rfl) ?_
                      refine zkI (wr := [(aKn, .inl (cI, 4, .inl mKn)), (aHa, .inl (cI, 4, .inl mHa)), (aHt, .inl (cI, 4, .inl mHt2))]) (r0 := (rX8_canTell nSt nIl nBa nGa nNs nLi nMi nNx nMv nOn nLa nCl nLn nTh mKi mOn mOt mWh mKt2 k1)) (u0 := ((oX8_canTell_mKt nSt nIl nBa nGa nNs nLi nMi nNx nMv nOn nLa nCl nLn nTh mKi mOn mOt mWh mKt2 k1))) (va_runV (As := [.int k1]) (rest := []) ⟨hx, hb, hml, hown, hts⟩ (c_X8_canTell l dC dI cI cJ w0 aKi aOn aOt aWh aKt aFk aFh aLe aWi aPr aPl aPt aKn aHa aHt H.size nSt nIl nBa nGa nNs nLi nMi nNx nMv nOn nLa nCl nLn nTh mKi mOn mOt mWh mKt2 k1 (by assumption) (by assumption) (by first | assumption | exact zin_a (by assumption) (by assumption) (by assumption) | exact zin_c (by assumption) (by assumption) (by assumption) | exact zin_c (by assumption) (by assumption) (by decide) | exact zin_e (by assumption) (by assumption) (by decide) | exact zin_e (by assumption) (by assumption) (by assumption) | exact zin_f (by assumption) (by assumption) (by assumption)) (hWH _ (zin_lt (by first | assumption | exact zin_a (by assumption) (by assumption) (by assumption) | exact zin_c (by assumption) (by assumption) (by assumption) | exact zin_c (by assumption) (by assumption) (by decide) | exact zin_e (by assumption) (by assumption) (by decide) | exact zin_e (by assumption) (by assumption) (by assumption) | exact zin_f (by assumption) (by assumption) (by assumption))))) (cwV 1 hts gX8_canClose_X8_canTell rfl rfl rfl (by decide +kernel) ⟨Nat.le_of_ble_eq_true rfl, Nat.le_of_ble_eq_true rfl⟩) (zpV hK hP hD hS hA hG [0, 1, 2, 3, 4, 7] (by decide) rfl 8 0 rfl rfl) rfl rfl hl.1 rfl (lv_room (Nat.le_of_ble_eq_true rfl)) dX8_canClose_138 ⟨Nat.le_of_ble_eq_true rfl, Nat.le_of_ble_eq_true rfl⟩) (fun r u h => ⟨h.1, h.2⟩) hP hD hS hA [0, 1, 2, 3, 4, 7] [5, 6, 8] rfl rfl (by decide) (by decide) (fun H locs hP hD hS => ?_)
                      try dsimp only [List.cons_append, List.nil_append] at hP hD
                      have hP : va_P (dC, dI) vwCl [(aKn, .inl (cI, 4, .inl mKn)), (aHa, .inl (cI, 4, .inl mHa)), (aHt, .inl (cI, 4, .inl mHt2)), (w0, .inr (8, [.ref aFk, .ref aFh, .int nSt, .ref aKi, .ref aOn, .ref aOt, .ref aWh, .int nIl, .int nBa, .int nGa, .ref aLe, .ref aWi, .ref aPr, .ref aPl, .ref aPt, .int nNs, .int nLi, .int nMi, .int nNx, .int nMv, .int nOn, .ref aKn, .ref aHa, .int nLa, .int nCl, .int nLn, .ref aKt, .ref aHt, .int nTh])), (aKi, .inl (cI, 12, .inl mKi)), (aOn, .inl (cI, 12, .inl mOn)), (aOt, .inl (cI, 12, .inl mOt)), (aWh, .inl (cI, 12, .inl mWh)), (aKt, .inl (cI, 4, .inl (oX8_canTell_mKt nSt nIl nBa nGa nNs nLi nMi nNx nMv nOn nLa nCl nLn nTh mKi mOn mOt mWh mKt2 k1)))] H := hP
                      have hD : va_D A [(aKn, .inl (cI, 4, .inl mKn)), (aHa, .inl (cI, 4, .inl mHa)), (aHt, .inl (cI, 4, .inl mHt2)), (w0, .inr (8, [.ref aFk, .ref aFh, .int nSt, .ref aKi, .ref aOn, .ref aOt, .ref aWh, .int nIl, .int nBa, .int nGa, .ref aLe, .ref aWi, .ref aPr, .ref aPl, .ref aPt, .int nNs, .int nLi, .int nMi, .int nNx, .int nMv, .int nOn, .ref aKn, .ref aHa, .int nLa, .int nCl, .int nLn, .ref aKt, .ref aHt, .int nTh])), (aKi, .inl (cI, 12, .inl mKi)), (aOn, .inl (cI, 12, .inl mOn)), (aOt, .inl (cI, 12, .inl mOt)), (aWh, .inl (cI, 12, .inl mWh)), (aKt, .inl (cI, 4, .inl (oX8_canTell_mKt nSt nIl nBa nGa nNs nLi nMi nNx nMv nOn nLa nCl nLn nTh mKi mOn mOt mWh mKt2 k1)))] := hD
                      refine lv_if_eq (tgt := 166) hx hb dX8_canClose_141 (by decide) (fun c_6 => ?_) (fun c_6 => ?_)
                      · refine lv_iconst (v := 0) hx hb dX8_canClose_166 (by decide) ?_
                        exact J167 (0 : Int32) (by unfold jX8_canClose_167_0; rw [if_neg c_2, if_pos c_3, if_pos c_6]) (oX8_canTell_mKt nSt nIl nBa nGa nNs nLi nMi nNx nMv nOn nLa nCl nLn nTh mKi mOn mOt mWh mKt2 k1) (by unfold jX8_canClose_167_1; rw [if_neg c_2, if_pos c_3]) mHt2 (by unfold jX8_canClose_167_2; rw [if_neg c_2, if_pos c_3, if_pos c_6]) _ _ _ (hP.sub [3, 4, 5, 6, 7, 0, 1, 8, 2] rfl) (hD.sub [3, 4, 5, 6, 7, 0, 1, 8, 2] (by decide) rfl) hS (lv_sub hl [0, 1, 2, 3, 4] rfl)
                      · refine lv_aload_n hx hb dX8_canClose_144 rfl (lv_at hl 3 rfl) ?_
                        refine va_get (D := (dC, dI)) (ci := 8) (v := .ref aKi) (C := RX8) (T := TX8) (N := 29) hx hb hts iX8_canClose_X8 hown hK hP 3 rfl rfl 3 (by decide) (hts _ kX8_canClose_2) (fun _ h9 => h9) rfl dX8_canClose_145 ?_
                        refine lv_iload_n hx hb dX8_canClose_148 rfl (lv_at hl 2 rfl) ?_
                        refine va_iald hx hb hK hP 4 0 rfl rfl (i := k1) (by first | assumption | exact zin_a (by assumption) (by assumption) (by assumption) | exact zin_c (by assumption) (by assumption) (by assumption) | exact zin_c (by assumption) (by assumption) (by decide) | exact zin_e (by assumption) (by assumption) (by decide) | exact zin_e (by assumption) (by assumption) (by assumption) | exact zin_f (by assumption) (by assumption) (by assumption)) dX8_canClose_149 ?_
                        refine lv_iconst (v := 1) hx hb dX8_canClose_150 (by decide) ?_
                        refine lv_icmp_ne (tgt := 162) hx hb dX8_canClose_151 (by decide) (fun c_7 => ?_) (fun c_7 => ?_)
                        · refine lv_iconst (v := 1) hx hb dX8_canClose_162 (by decide) ?_
                          refine lv_goto (tgt := 167) hx hb dX8_canClose_163 (by decide) ?_
                          exact J167 (1 : Int32) (by unfold jX8_canClose_167_0; rw [if_neg c_2, if_pos c_3, if_neg c_6, if_neg c_7]) (oX8_canTell_mKt nSt nIl nBa nGa nNs nLi nMi nNx nMv nOn nLa nCl nLn nTh mKi mOn mOt mWh mKt2 k1) (by unfold jX8_canClose_167_1; rw [if_neg c_2, if_pos c_3]) mHt2 (by unfold jX8_canClose_167_2; rw [if_neg c_2, if_pos c_3, if_neg c_6, if_neg c_7]) _ _ _ (hP.sub [3, 4, 5, 6, 7, 0, 1, 8, 2] rfl) (hD.sub [3, 4, 5, 6, 7, 0, 1, 8, 2] (by decide) rfl) hS (lv_sub hl [0, 1, 2, 3, 4] rfl)
                        · refine lv_aload_n hx hb dX8_canClose_154 rfl (lv_at hl 3 rfl) ?_
                          refine lv_iload_n hx hb dX8_canClose_155 rfl (lv_at hl 2 rfl) ?_
                          refine zkI (wr := [(aKn, .inl (cI, 4, .inl mKn)), (aHa, .inl (cI, 4, .inl mHa)), (aKi, .inl (cI, 12, .inl mKi)), (aOn, .inl (cI, 12, .inl mOn)), (aKt, .inl (cI, 4, .inl (oX8_canTell_mKt nSt nIl nBa nGa nNs nLi nMi nNx nMv nOn nLa nCl nLn nTh mKi mOn mOt mWh mKt2 k1)))]) (r0 := (rX8_canGive nSt nIl nBa nGa nNs nLi nMi nNx nMv nOn nLa nCl nLn nTh mOt mWh mHt2 k1)) (u0 := ((oX8_canGive_mHt nSt nIl nBa nGa nNs nLi nMi nNx nMv nOn nLa nCl nLn nTh mOt mWh mHt2 k1))) (va_runV (As := [.int k1]) (rest := []) ⟨hx, hb, hml, hown, hts⟩ (c_X8_canGive l dC dI cI cJ w0 aOt aWh aHt aFk aFh aKi aOn aLe aWi aPr aPl aPt aKn aHa aKt H.size nSt nIl nBa nGa nNs nLi nMi nNx nMv nOn nLa nCl nLn nTh mOt mWh mHt2 k1 (by first | assumption | exact zin_a (by assumption) (by assumption) (by assumption) | exact zin_c (by assumption) (by assumption) (by assumption) | exact zin_c (by assumption) (by assumption) (by decide) | exact zin_e (by assumption) (by assumption) (by decide) | exact zin_e (by assumption) (by assumption) (by assumption) | exact zin_f (by assumption) (by assumption) (by assumption)) (hWH _ (zin_lt (by first | assumption | exact zin_a (by assumption) (by assumption) (by assumption) | exact zin_c (by assumption) (by assumption) (by assumption) | exact zin_c (by assumption) (by assumption) (by decide) | exact zin_e (by assumption) (by assumption) (by decide) | exact zin_e (by assumption) (by assumption) (by assumption) | exact zin_f (by assumption) (by assumption) (by assumption))))) (cwV 1 hts gX8_canClose_X8_canGive rfl rfl rfl (by decide +kernel) ⟨Nat.le_of_ble_eq_true rfl, Nat.le_of_ble_eq_true rfl⟩) (zpV hK hP hD hS hA hG [3, 6, 7, 2] (by decide) rfl 8 3 rfl rfl) rfl rfl hl.1 rfl (lv_room (Nat.le_of_ble_eq_true rfl)) dX8_canClose_156 ⟨Nat.le_of_ble_eq_true rfl, Nat.le_of_ble_eq_true rfl⟩) (fun r u h => ⟨h.1, h.2⟩) hP hD hS hA [3, 6, 7, 2] [0, 1, 4, 5, 8] rfl rfl (by decide) (by decide) (fun H locs hP hD hS => ?_)
                          try dsimp only [List.cons_append, List.nil_append] at hP hD
                          have hP : va_P (dC, dI) vwCl [(aKn, .inl (cI, 4, .inl mKn)), (aHa, .inl (cI, 4, .inl mHa)), (aKi, .inl (cI, 12, .inl mKi)), (aOn, .inl (cI, 12, .inl mOn)), (aKt, .inl (cI, 4, .inl (oX8_canTell_mKt nSt nIl nBa nGa nNs nLi nMi nNx nMv nOn nLa nCl nLn nTh mKi mOn mOt mWh mKt2 k1))), (w0, .inr (8, [.ref aFk, .ref aFh, .int nSt, .ref aKi, .ref aOn, .ref aOt, .ref aWh, .int nIl, .int nBa, .int nGa, .ref aLe, .ref aWi, .ref aPr, .ref aPl, .ref aPt, .int nNs, .int nLi, .int nMi, .int nNx, .int nMv, .int nOn, .ref aKn, .ref aHa, .int nLa, .int nCl, .int nLn, .ref aKt, .ref aHt, .int nTh])), (aOt, .inl (cI, 12, .inl mOt)), (aWh, .inl (cI, 12, .inl mWh)), (aHt, .inl (cI, 4, .inl (oX8_canGive_mHt nSt nIl nBa nGa nNs nLi nMi nNx nMv nOn nLa nCl nLn nTh mOt mWh mHt2 k1)))] H := hP
                          have hD : va_D A [(aKn, .inl (cI, 4, .inl mKn)), (aHa, .inl (cI, 4, .inl mHa)), (aKi, .inl (cI, 12, .inl mKi)), (aOn, .inl (cI, 12, .inl mOn)), (aKt, .inl (cI, 4, .inl (oX8_canTell_mKt nSt nIl nBa nGa nNs nLi nMi nNx nMv nOn nLa nCl nLn nTh mKi mOn mOt mWh mKt2 k1))), (w0, .inr (8, [.ref aFk, .ref aFh, .int nSt, .ref aKi, .ref aOn, .ref aOt, .ref aWh, .int nIl, .int nBa, .int nGa, .ref aLe, .ref aWi, .ref aPr, .ref aPl, .ref aPt, .int nNs, .int nLi, .int nMi, .int nNx, .int nMv, .int nOn, .ref aKn, .ref aHa, .int nLa, .int nCl, .int nLn, .ref aKt, .ref aHt, .int nTh])), (aOt, .inl (cI, 12, .inl mOt)), (aWh, .inl (cI, 12, .inl mWh)), (aHt, .inl (cI, 4, .inl (oX8_canGive_mHt nSt nIl nBa nGa nNs nLi nMi nNx nMv nOn nLa nCl nLn nTh mOt mWh mHt2 k1)))] := hD
                          refine lv_if_eq (tgt := 166) hx hb dX8_canClose_159 (by decide) (fun c_8 => ?_) (fun c_8 => ?_)
                          · refine lv_iconst (v := 0) hx hb dX8_canClose_166 (by decide) ?_
                            exact J167 (0 : Int32) (by unfold jX8_canClose_167_0; rw [if_neg c_2, if_pos c_3, if_neg c_6, if_pos c_7, if_pos c_8]) (oX8_canTell_mKt nSt nIl nBa nGa nNs nLi nMi nNx nMv nOn nLa nCl nLn nTh mKi mOn mOt mWh mKt2 k1) (by unfold jX8_canClose_167_1; rw [if_neg c_2, if_pos c_3]) (oX8_canGive_mHt nSt nIl nBa nGa nNs nLi nMi nNx nMv nOn nLa nCl nLn nTh mOt mWh mHt2 k1) (by unfold jX8_canClose_167_2; rw [if_neg c_2, if_pos c_3, if_neg c_6, if_pos c_7]) _ _ _ (hP.sub [5, 2, 3, 6, 7, 0, 1, 4, 8] rfl) (hD.sub [5, 2, 3, 6, 7, 0, 1, 4, 8] (by decide) rfl) hS (lv_sub hl [0, 1, 2, 3, 4] rfl)
                          · refine lv_iconst (v := 1) hx hb dX8_canClose_162 (by decide) ?_
                            refine lv_goto (tgt := 167) hx hb dX8_canClose_163 (by decide) ?_
                            exact J167 (1 : Int32) (by unfold jX8_canClose_167_0; rw [if_neg c_2, if_pos c_3, if_neg c_6, if_pos c_7, if_neg c_8]) (oX8_canTell_mKt nSt nIl nBa nGa nNs nLi nMi nNx nMv nOn nLa nCl nLn nTh mKi mOn mOt mWh mKt2 k1) (by unfold jX8_canClose_167_1; rw [if_neg c_2, if_pos c_3]) (oX8_canGive_mHt nSt nIl nBa nGa nNs nLi nMi nNx nMv nOn nLa nCl nLn nTh mOt mWh mHt2 k1) (by unfold jX8_canClose_167_2; rw [if_neg c_2, if_pos c_3, if_neg c_6, if_pos c_7]) _ _ _ (hP.sub [5, 2, 3, 6, 7, 0, 1, 4, 8] rfl) (hD.sub [5, 2, 3, 6, 7, 0, 1, 4, 8] (by decide) rfl) hS (lv_sub hl [0, 1, 2, 3, 4] rfl)
                subst hR9; subst hQ9
                refine lv_if_eq (tgt := 121) hx hb dX8_canClose_77 (by decide) (fun c_9 => ?_) (fun c_9 => ?_)
                · refine lv_iconst (v := 0) hx hb dX8_canClose_121 (by decide) ?_
                  exact J122 (0 : Int32) (by unfold jX8_canClose_122_0; rw [if_pos c_9]) _ _ _ hP hD hS (lv_sub hl [0, 1, 2, 3, 4] rfl)
                · refine lv_aload_n hx hb dX8_canClose_80 rfl (lv_at hl 3 rfl) ?_
                  refine va_get (D := (dC, dI)) (ci := 8) (v := .int nIl) (C := RX8) (T := TX8) (N := 29) hx hb hts iX8_canClose_X8 hown hK hP 0 rfl rfl 7 (by decide) (hts _ kX8_canClose_3) (fun _ h9 => h9) rfl dX8_canClose_81 ?_
                  refine lv_aload_n hx hb dX8_canClose_84 rfl (lv_at hl 3 rfl) ?_
                  refine va_get (D := (dC, dI)) (ci := 8) (v := .ref aOn) (C := RX8) (T := TX8) (N := 29) hx hb hts iX8_canClose_X8 hown hK hP 0 rfl rfl 4 (by decide) (hts _ kX8_canClose_4) (fun _ h9 => h9) rfl dX8_canClose_85 ?_
                  refine lv_iload_n hx hb dX8_canClose_88 rfl (lv_at hl 1 rfl) ?_
                  refine va_iald hx hb hK hP 2 0 rfl rfl (i := k1) (by first | assumption | exact zin_a (by assumption) (by assumption) (by assumption) | exact zin_c (by assumption) (by assumption) (by assumption) | exact zin_c (by assumption) (by assumption) (by decide) | exact zin_e (by assumption) (by assumption) (by decide) | exact zin_e (by assumption) (by assumption) (by assumption) | exact zin_f (by assumption) (by assumption) (by assumption)) dX8_canClose_89 ?_
                  refine zcSi (va_runS (As := [.int nIl, .int (mOn (k1).toNatClampNeg)]) (rest := []) ⟨hx, hb, hml, hown, hts⟩ (c_X8_holds l dC dI cI cJ H.size nIl (mOn (k1).toNatClampNeg) ) (va_cwS 2 hts gX8_canClose_X8_holds rfl rfl rfl (by decide +kernel) ⟨Nat.le_of_ble_eq_true rfl, Nat.le_of_ble_eq_true rfl⟩) (zpS hK hP hD hS hA hG [] (by decide) rfl) rfl rfl hl.1 rfl (lv_room (Nat.le_of_ble_eq_true rfl)) dX8_canClose_90 ⟨Nat.le_of_ble_eq_true rfl, Nat.le_of_ble_eq_true rfl⟩) ?_
                  refine lv_if_ne (tgt := 121) hx hb dX8_canClose_93 (by decide) (fun c_10 => ?_) (fun c_10 => ?_)
                  · refine lv_iconst (v := 0) hx hb dX8_canClose_121 (by decide) ?_
                    exact J122 (0 : Int32) (by unfold jX8_canClose_122_0; rw [if_neg c_9, if_neg c_10]) _ _ _ hP hD hS (lv_sub hl [0, 1, 2, 3, 4] rfl)
                  · refine lv_iload hx hb dX8_canClose_96 (lv_at hl 0 rfl) ?_
                    refine lv_if_eq (tgt := 117) hx hb dX8_canClose_98 (by decide) (fun c_11 => ?_) (fun c_11 => ?_)
                    · refine lv_iconst (v := 1) hx hb dX8_canClose_117 (by decide) ?_
                      refine lv_goto (tgt := 122) hx hb dX8_canClose_118 (by decide) ?_
                      exact J122 (1 : Int32) (by unfold jX8_canClose_122_0; rw [if_neg c_9, if_pos c_10, if_pos c_11]) _ _ _ hP hD hS (lv_sub hl [0, 1, 2, 3, 4] rfl)
                    · refine lv_aload_n hx hb dX8_canClose_101 rfl (lv_at hl 3 rfl) ?_
                      refine va_get (D := (dC, dI)) (ci := 8) (v := .int nIl) (C := RX8) (T := TX8) (N := 29) hx hb hts iX8_canClose_X8 hown hK hP 0 rfl rfl 7 (by decide) (hts _ kX8_canClose_3) (fun _ h9 => h9) rfl dX8_canClose_102 ?_
                      refine lv_aload_n hx hb dX8_canClose_105 rfl (lv_at hl 3 rfl) ?_
                      refine va_get (D := (dC, dI)) (ci := 8) (v := .ref aOt) (C := RX8) (T := TX8) (N := 29) hx hb hts iX8_canClose_X8 hown hK hP 0 rfl rfl 5 (by decide) (hts _ kX8_canClose_5) (fun _ h9 => h9) rfl dX8_canClose_106 ?_
                      refine lv_iload_n hx hb dX8_canClose_109 rfl (lv_at hl 1 rfl) ?_
                      refine va_iald hx hb hK hP 3 0 rfl rfl (i := k1) (by first | assumption | exact zin_a (by assumption) (by assumption) (by assumption) | exact zin_c (by assumption) (by assumption) (by assumption) | exact zin_c (by assumption) (by assumption) (by decide) | exact zin_e (by assumption) (by assumption) (by decide) | exact zin_e (by assumption) (by assumption) (by assumption) | exact zin_f (by assumption) (by assumption) (by assumption)) dX8_canClose_110 ?_
                      refine zcSi (va_runS (As := [.int nIl, .int (mOt (k1).toNatClampNeg)]) (rest := []) ⟨hx, hb, hml, hown, hts⟩ (c_X8_holds l dC dI cI cJ H.size nIl (mOt (k1).toNatClampNeg) ) (va_cwS 2 hts gX8_canClose_X8_holds rfl rfl rfl (by decide +kernel) ⟨Nat.le_of_ble_eq_true rfl, Nat.le_of_ble_eq_true rfl⟩) (zpS hK hP hD hS hA hG [] (by decide) rfl) rfl rfl hl.1 rfl (lv_room (Nat.le_of_ble_eq_true rfl)) dX8_canClose_111 ⟨Nat.le_of_ble_eq_true rfl, Nat.le_of_ble_eq_true rfl⟩) ?_
                      refine lv_if_ne (tgt := 121) hx hb dX8_canClose_114 (by decide) (fun c_12 => ?_) (fun c_12 => ?_)
                      · refine lv_iconst (v := 0) hx hb dX8_canClose_121 (by decide) ?_
                        exact J122 (0 : Int32) (by unfold jX8_canClose_122_0; rw [if_neg c_9, if_pos c_10, if_neg c_11, if_neg c_12]) _ _ _ hP hD hS (lv_sub hl [0, 1, 2, 3, 4] rfl)
                      · refine lv_iconst (v := 1) hx hb dX8_canClose_117 (by decide) ?_
                        refine lv_goto (tgt := 122) hx hb dX8_canClose_118 (by decide) ?_
                        exact J122 (1 : Int32) (by unfold jX8_canClose_122_0; rw [if_neg c_9, if_pos c_10, if_neg c_11, if_pos c_12]) _ _ _ hP hD hS (lv_sub hl [0, 1, 2, 3, 4] rfl)
              subst hR9; subst hQ9
              refine lv_icmp_eq (tgt := 73) hx hb dX8_canClose_56 (by decide) (fun c_13 => ?_) (fun c_13 => ?_)
              · refine lv_iconst (v := 0) hx hb dX8_canClose_73 (by decide) ?_
                exact J74 (0 : Int32) (by unfold jX8_canClose_74_0; rw [if_pos c_13]) _ _ _ hP hD hS (lv_sub hl [0, 1, 2, 3] rfl)
              · refine lv_aload_n hx hb dX8_canClose_59 rfl (lv_at hl 2 rfl) ?_
                refine va_get (D := (dC, dI)) (ci := 8) (v := .ref aKi) (C := RX8) (T := TX8) (N := 29) hx hb hts iX8_canClose_X8 hown hK hP 0 rfl rfl 3 (by decide) (hts _ kX8_canClose_2) (fun _ h9 => h9) rfl dX8_canClose_60 ?_
                refine lv_iload_n hx hb dX8_canClose_63 rfl (lv_at hl 0 rfl) ?_
                refine va_iald hx hb hK hP 1 0 rfl rfl (i := k1) (by first | assumption | exact zin_a (by assumption) (by assumption) (by assumption) | exact zin_c (by assumption) (by assumption) (by assumption) | exact zin_c (by assumption) (by assumption) (by decide) | exact zin_e (by assumption) (by assumption) (by decide) | exact zin_e (by assumption) (by assumption) (by assumption) | exact zin_f (by assumption) (by assumption) (by assumption)) dX8_canClose_64 ?_
                refine lv_iconst (v := 3) hx hb dX8_canClose_65 (by decide) ?_
                refine lv_icmp_eq (tgt := 73) hx hb dX8_canClose_66 (by decide) (fun c_14 => ?_) (fun c_14 => ?_)
                · refine lv_iconst (v := 0) hx hb dX8_canClose_73 (by decide) ?_
                  exact J74 (0 : Int32) (by unfold jX8_canClose_74_0; rw [if_neg c_13, if_pos c_14]) _ _ _ hP hD hS (lv_sub hl [0, 1, 2, 3] rfl)
                · refine lv_iconst (v := 1) hx hb dX8_canClose_69 (by decide) ?_
                  refine lv_goto (tgt := 74) hx hb dX8_canClose_70 (by decide) ?_
                  exact J74 (1 : Int32) (by unfold jX8_canClose_74_0; rw [if_neg c_13, if_neg c_14]) _ _ _ hP hD hS (lv_sub hl [0, 1, 2, 3] rfl)
        subst hR9; subst hQ9
        exact L41 14 mKt1 mHt1 (1 : Int32) p1 hp0 (by omega) (Or.inr rfl) (by rw [← hj37_r]; unfold qX8_canClose_37_r; rfl) (by rw [← hj37_mKt]; unfold qX8_canClose_37_mKt; rfl) (by rw [← hj37_mHt]; unfold qX8_canClose_37_mHt; rfl) _ _ _ hP hD hS (lv_sub hl [0, 1, 2, 3] rfl)
      subst hR9; subst hQ9
      refine lv_icmp_ge (tgt := 37) hx hb dX8_canClose_4 (by decide) (fun c_15 => ?_) (fun c_15 => ?_)
      · exact J37 (by rw [← hres2_r]; rw [lX8_canClose_2_r]; rw [if_pos c_15]) (by rw [← hres2_mKt]; rw [lX8_canClose_2_mKt]; rw [if_pos c_15]) (by rw [← hres2_mHt]; rw [lX8_canClose_2_mHt]; rw [if_pos c_15]) _ _ _ hP hD hS (lv_sub hl [0, 1, 2] rfl)
      · refine lv_aload_n hx hb dX8_canClose_7 rfl (lv_at hl 1 rfl) ?_
        refine va_get (D := (dC, dI)) (ci := 8) (v := .ref aKt) (C := RX8) (T := TX8) (N := 29) hx hb hts iX8_canClose_X8 hown hK hP 0 rfl rfl 26 (by decide) (hts _ kX8_canClose_6) (fun _ h9 => h9) rfl dX8_canClose_8 ?_
        refine lv_iload_n hx hb dX8_canClose_11 rfl (lv_at hl 0 rfl) ?_
        refine lv_aload_n hx hb dX8_canClose_12 rfl (lv_at hl 1 rfl) ?_
        refine va_get (D := (dC, dI)) (ci := 8) (v := .ref aKn) (C := RX8) (T := TX8) (N := 29) hx hb hts iX8_canClose_X8 hown hK hP 0 rfl rfl 21 (by decide) (hts _ kX8_canClose_7) (fun _ h9 => h9) rfl dX8_canClose_13 ?_
        refine lv_iload_n hx hb dX8_canClose_16 rfl (lv_at hl 0 rfl) ?_
        refine va_iald hx hb hK hP 5 0 rfl rfl (i := i1) (by first | assumption | exact zin_a (by assumption) (by assumption) (by assumption) | exact zin_c (by assumption) (by assumption) (by assumption) | exact zin_c (by assumption) (by assumption) (by decide) | exact zin_e (by assumption) (by assumption) (by decide) | exact zin_e (by assumption) (by assumption) (by assumption) | exact zin_f (by assumption) (by assumption) (by assumption)) dX8_canClose_17 ?_
        refine va_iast hx hb hK hP hD hS 7 0 rfl rfl (i := i1) (x := (mKn (i1).toNatClampNeg)) (by first | assumption | exact zin_a (by assumption) (by assumption) (by assumption) | exact zin_c (by assumption) (by assumption) (by assumption) | exact zin_c (by assumption) (by assumption) (by decide) | exact zin_e (by assumption) (by assumption) (by decide) | exact zin_e (by assumption) (by assumption) (by assumption) | exact zin_f (by assumption) (by assumption) (by assumption)) dX8_canClose_18 (fun H locs hP hD hS => ?_)
        have hP : va_P (dC, dI) vwCl [(w0, .inr (8, [.ref aFk, .ref aFh, .int nSt, .ref aKi, .ref aOn, .ref aOt, .ref aWh, .int nIl, .int nBa, .int nGa, .ref aLe, .ref aWi, .ref aPr, .ref aPl, .ref aPt, .int nNs, .int nLi, .int nMi, .int nNx, .int nMv, .int nOn, .ref aKn, .ref aHa, .int nLa, .int nCl, .int nLn, .ref aKt, .ref aHt, .int nTh])), (aKi, .inl (cI, 12, .inl mKi)), (aOn, .inl (cI, 12, .inl mOn)), (aOt, .inl (cI, 12, .inl mOt)), (aWh, .inl (cI, 12, .inl mWh)), (aKn, .inl (cI, 4, .inl mKn)), (aHa, .inl (cI, 4, .inl mHa)), (aKt, .inl (cI, 4, .inl (upd mKt1 (i1).toNatClampNeg (mKn (i1).toNatClampNeg)))), (aHt, .inl (cI, 4, .inl mHt1))] H := hP
        have hD : va_D A [(w0, .inr (8, [.ref aFk, .ref aFh, .int nSt, .ref aKi, .ref aOn, .ref aOt, .ref aWh, .int nIl, .int nBa, .int nGa, .ref aLe, .ref aWi, .ref aPr, .ref aPl, .ref aPt, .int nNs, .int nLi, .int nMi, .int nNx, .int nMv, .int nOn, .ref aKn, .ref aHa, .int nLa, .int nCl, .int nLn, .ref aKt, .ref aHt, .int nTh])), (aKi, .inl (cI, 12, .inl mKi)), (aOn, .inl (cI, 12, .inl mOn)), (aOt, .inl (cI, 12, .inl mOt)), (aWh, .inl (cI, 12, .inl mWh)), (aKn, .inl (cI, 4, .inl mKn)), (aHa, .inl (cI, 4, .inl mHa)), (aKt, .inl (cI, 4, .inl (upd mKt1 (i1).toNatClampNeg (mKn (i1).toNatClampNeg)))), (aHt, .inl (cI, 4, .inl mHt1))] := hD
        refine lv_aload_n hx hb dX8_canClose_19 rfl (lv_at hl 1 rfl) ?_
        refine va_get (D := (dC, dI)) (ci := 8) (v := .ref aHt) (C := RX8) (T := TX8) (N := 29) hx hb hts iX8_canClose_X8 hown hK hP 0 rfl rfl 27 (by decide) (hts _ kX8_canClose_8) (fun _ h9 => h9) rfl dX8_canClose_20 ?_
        refine lv_iload_n hx hb dX8_canClose_23 rfl (lv_at hl 0 rfl) ?_
        refine lv_aload_n hx hb dX8_canClose_24 rfl (lv_at hl 1 rfl) ?_
        refine va_get (D := (dC, dI)) (ci := 8) (v := .ref aHa) (C := RX8) (T := TX8) (N := 29) hx hb hts iX8_canClose_X8 hown hK hP 0 rfl rfl 22 (by decide) (hts _ kX8_canClose_9) (fun _ h9 => h9) rfl dX8_canClose_25 ?_
        refine lv_iload_n hx hb dX8_canClose_28 rfl (lv_at hl 0 rfl) ?_
        refine va_iald hx hb hK hP 6 0 rfl rfl (i := i1) (by first | assumption | exact zin_a (by assumption) (by assumption) (by assumption) | exact zin_c (by assumption) (by assumption) (by assumption) | exact zin_c (by assumption) (by assumption) (by decide) | exact zin_e (by assumption) (by assumption) (by decide) | exact zin_e (by assumption) (by assumption) (by assumption) | exact zin_f (by assumption) (by assumption) (by assumption)) dX8_canClose_29 ?_
        refine va_iast hx hb hK hP hD hS 8 0 rfl rfl (i := i1) (x := (mHa (i1).toNatClampNeg)) (by first | assumption | exact zin_a (by assumption) (by assumption) (by assumption) | exact zin_c (by assumption) (by assumption) (by assumption) | exact zin_c (by assumption) (by assumption) (by decide) | exact zin_e (by assumption) (by assumption) (by decide) | exact zin_e (by assumption) (by assumption) (by assumption) | exact zin_f (by assumption) (by assumption) (by assumption)) dX8_canClose_30 (fun H locs hP hD hS => ?_)
        have hP : va_P (dC, dI) vwCl [(w0, .inr (8, [.ref aFk, .ref aFh, .int nSt, .ref aKi, .ref aOn, .ref aOt, .ref aWh, .int nIl, .int nBa, .int nGa, .ref aLe, .ref aWi, .ref aPr, .ref aPl, .ref aPt, .int nNs, .int nLi, .int nMi, .int nNx, .int nMv, .int nOn, .ref aKn, .ref aHa, .int nLa, .int nCl, .int nLn, .ref aKt, .ref aHt, .int nTh])), (aKi, .inl (cI, 12, .inl mKi)), (aOn, .inl (cI, 12, .inl mOn)), (aOt, .inl (cI, 12, .inl mOt)), (aWh, .inl (cI, 12, .inl mWh)), (aKn, .inl (cI, 4, .inl mKn)), (aHa, .inl (cI, 4, .inl mHa)), (aKt, .inl (cI, 4, .inl (upd mKt1 (i1).toNatClampNeg (mKn (i1).toNatClampNeg)))), (aHt, .inl (cI, 4, .inl (upd mHt1 (i1).toNatClampNeg (mHa (i1).toNatClampNeg))))] H := hP
        have hD : va_D A [(w0, .inr (8, [.ref aFk, .ref aFh, .int nSt, .ref aKi, .ref aOn, .ref aOt, .ref aWh, .int nIl, .int nBa, .int nGa, .ref aLe, .ref aWi, .ref aPr, .ref aPl, .ref aPt, .int nNs, .int nLi, .int nMi, .int nNx, .int nMv, .int nOn, .ref aKn, .ref aHa, .int nLa, .int nCl, .int nLn, .ref aKt, .ref aHt, .int nTh])), (aKi, .inl (cI, 12, .inl mKi)), (aOn, .inl (cI, 12, .inl mOn)), (aOt, .inl (cI, 12, .inl mOt)), (aWh, .inl (cI, 12, .inl mWh)), (aKn, .inl (cI, 4, .inl mKn)), (aHa, .inl (cI, 4, .inl mHa)), (aKt, .inl (cI, 4, .inl (upd mKt1 (i1).toNatClampNeg (mKn (i1).toNatClampNeg)))), (aHt, .inl (cI, 4, .inl (upd mHt1 (i1).toNatClampNeg (mHa (i1).toNatClampNeg))))] := hD
        refine lv_iinc (v := (i1 + 1)) (lv' := [(2, .int (i1 + 1)), (0, .ref w0), (1, .int p1)]) hx hb dX8_canClose_31 hl (k := 0) rfl rfl (by decide) rfl (fun ls hl => ?_)
        refine lv_goto (tgt := 2) hx hb dX8_canClose_34 (by decide) ?_
        exact ih2 (upd mKt1 (i1).toNatClampNeg (mKn (i1).toNatClampNeg)) (upd mHt1 (i1).toNatClampNeg (mHa (i1).toNatClampNeg)) (i1 + 1) (by have h9 := zInc (x := i1) (y := (4 : Int32)) (by assumption); omega) (by have h9 := zInc (x := i1) (y := (4 : Int32)) (by assumption); have h8 := zGo (x := i1) (y := (4 : Int32)) (by assumption); omega) (by rw [← hres2_r]; rw [lX8_canClose_2_r]; rw [if_neg c_15]) (by rw [← hres2_mKt]; rw [lX8_canClose_2_mKt]; rw [if_neg c_15]) (by rw [← hres2_mHt]; rw [lX8_canClose_2_mHt]; rw [if_neg c_15]) _ _ _ hP hD hS (lv_sub hl [0, 1, 2] rfl)
  subst hR9; subst hQ9
  exact L2 5 mKt mHt (0 : Int32) (by decide) (by decide) (by unfold rX8_canClose; rfl) (by unfold oX8_canClose_mKt; rfl) (by unfold oX8_canClose_mHt; rfl) _ _ _ hP hD hS (lv_sub hl [0, 1, 2] rfl)

/-! X8_goesBy -/
def oX8_goesBy_nMi (nSt : Int32) (nIl : Int32) (nBa : Int32) (nGa : Int32) (nNs : Int32) (nLi : Int32) (nMi : Int32) (nNx : Int32) (nMv : Int32) (nOn : Int32) (nLa : Int32) (nCl : Int32) (nLn : Int32) (nTh : Int32) (p1 : Int32) : Int32 := (nMi + p1)
def oX8_goesBy_nNs (nSt : Int32) (nIl : Int32) (nBa : Int32) (nGa : Int32) (nNs : Int32) (nLi : Int32) (nMi : Int32) (nNx : Int32) (nMv : Int32) (nOn : Int32) (nLa : Int32) (nCl : Int32) (nLn : Int32) (nTh : Int32) (p1 : Int32) : Int32 := (if nNx = nSt then (2 : Int32) else (if (nMi + p1) < nLi then nNs else (3 : Int32)))
def oX8_goesBy_nCl (nSt : Int32) (nIl : Int32) (nBa : Int32) (nGa : Int32) (nNs : Int32) (nLi : Int32) (nMi : Int32) (nNx : Int32) (nMv : Int32) (nOn : Int32) (nLa : Int32) (nCl : Int32) (nLn : Int32) (nTh : Int32) (p1 : Int32) : Int32 := (if nNx = nSt then (nCl + (1 : Int32)) else nCl)
def oX8_goesBy_nLn (nSt : Int32) (nIl : Int32) (nBa : Int32) (nGa : Int32) (nNs : Int32) (nLi : Int32) (nMi : Int32) (nNx : Int32) (nMv : Int32) (nOn : Int32) (nLa : Int32) (nCl : Int32) (nLn : Int32) (nTh : Int32) (p1 : Int32) : Int32 := (if nNx = nSt then nLn else (if (nMi + p1) < nLi then nLn else (nLn + (1 : Int32))))
set_option maxRecDepth 20000 in
theorem iX8_goesBy_X8 : ∀ w ∈ u_ws RX8 TX8 29, w ∈ wsX8_goesBy := by decide +kernel
set_option maxRecDepth 20000 in
theorem kX8_goesBy_1 : Cond.fieldLink RX8 117 "MaskHallModel" "minutes" "I" ∈ wsX8_goesBy := by decide +kernel
set_option maxRecDepth 20000 in
theorem kX8_goesBy_2 : Cond.fieldLink RX8 43 "MaskHallModel" "next" "I" ∈ wsX8_goesBy := by decide +kernel
set_option maxRecDepth 20000 in
theorem kX8_goesBy_3 : Cond.fieldLink RX8 90 "MaskHallModel" "steps" "I" ∈ wsX8_goesBy := by decide +kernel
set_option maxRecDepth 20000 in
theorem kX8_goesBy_4 : Cond.fieldLink RX8 114 "MaskHallModel" "light" "I" ∈ wsX8_goesBy := by decide +kernel
set_option maxRecDepth 20000 in
theorem kX8_goesBy_5 : Cond.fieldLink RX8 84 "MaskHallModel" "state" "I" ∈ wsX8_goesBy := by decide +kernel
set_option maxRecDepth 20000 in
theorem kX8_goesBy_6 : Cond.fieldLink RX8 126 "MaskHallModel" "lateNights" "I" ∈ wsX8_goesBy := by decide +kernel
set_option maxRecDepth 20000 in
theorem kX8_goesBy_7 : Cond.fieldLink RX8 123 "MaskHallModel" "closedNights" "I" ∈ wsX8_goesBy := by decide +kernel
set_option maxHeartbeats 900000 in
set_option maxRecDepth 100000 in
theorem c_X8_goesBy (l : Launch) (dC : Nat → ClassId) (dI : Nat → Nat → Nat) (cI cJ : ClassId) (w0 aFk aFh aKi aOn aOt aWh aLe aWi aPr aPl aPt aKn aHa aKt aHt : Nat) (sz : Nat) (nSt : Int32) (nIl : Int32) (nBa : Int32) (nGa : Int32) (nNs : Int32) (nLi : Int32) (nMi : Int32) (nNx : Int32) (nMv : Int32) (nOn : Int32) (nLa : Int32) (nCl : Int32) (nLn : Int32) (nTh : Int32) (p1 : Int32) : Met l yX8_goesBy wsX8_goesBy ({ frames := 0, cells := 0, slots := 0, locals := 0 }) (va_Pc [.ref w0, .int p1] (zI (dC, dI) [(cI, .int), (cJ, .long)] [(w0, .inr (8, [.ref aFk, .ref aFh, .int nSt, .ref aKi, .ref aOn, .ref aOt, .ref aWh, .int nIl, .int nBa, .int nGa, .ref aLe, .ref aWi, .ref aPr, .ref aPl, .ref aPt, .int nNs, .int nLi, .int nMi, .int nNx, .int nMv, .int nOn, .ref aKn, .ref aHa, .int nLa, .int nCl, .int nLn, .ref aKt, .ref aHt, .int nTh]))] sz)) (va_Qv (fun (u : (Int32) × (Int32) × (Int32) × (Int32)) => u.1 = oX8_goesBy_nMi nSt nIl nBa nGa nNs nLi nMi nNx nMv nOn nLa nCl nLn nTh p1 ∧ u.2.1 = oX8_goesBy_nNs nSt nIl nBa nGa nNs nLi nMi nNx nMv nOn nLa nCl nLn nTh p1 ∧ u.2.2.1 = oX8_goesBy_nCl nSt nIl nBa nGa nNs nLi nMi nNx nMv nOn nLa nCl nLn nTh p1 ∧ u.2.2.2 = oX8_goesBy_nLn nSt nIl nBa nGa nNs nLi nMi nNx nMv nOn nLa nCl nLn nTh p1) (fun u => zO (dC, dI) [(cI, .int), (cJ, .long)] [(w0, .inr (8, [.ref aFk, .ref aFh, .int nSt, .ref aKi, .ref aOn, .ref aOt, .ref aWh, .int nIl, .int nBa, .int nGa, .ref aLe, .ref aWi, .ref aPr, .ref aPl, .ref aPt, .int u.2.1, .int nLi, .int u.1, .int nNx, .int nMv, .int nOn, .ref aKn, .ref aHa, .int nLa, .int u.2.2.1, .int u.2.2.2, .ref aKt, .ref aHt, .int nTh]))] (va_A [(w0, .inr (8, [.ref aFk, .ref aFh, .int nSt, .ref aKi, .ref aOn, .ref aOt, .ref aWh, .int nIl, .int nBa, .int nGa, .ref aLe, .ref aWi, .ref aPr, .ref aPl, .ref aPt, .int nNs, .int nLi, .int nMi, .int nNx, .int nMv, .int nOn, .ref aKn, .ref aHa, .int nLa, .int nCl, .int nLn, .ref aKt, .ref aHt, .int nTh]))] sz)) (va_A [(w0, .inr (8, [.ref aFk, .ref aFh, .int nSt, .ref aKi, .ref aOn, .ref aOt, .ref aWh, .int nIl, .int nBa, .int nGa, .ref aLe, .ref aWi, .ref aPr, .ref aPl, .ref aPt, .int nNs, .int nLi, .int nMi, .int nNx, .int nMv, .int nOn, .ref aKn, .ref aHa, .int nLa, .int nCl, .int nLn, .ref aKt, .ref aHt, .int nTh]))] sz)) 0 0 (va_A [(w0, .inr (8, [.ref aFk, .ref aFh, .int nSt, .ref aKi, .ref aOn, .ref aOt, .ref aWh, .int nIl, .int nBa, .int nGa, .ref aLe, .ref aWi, .ref aPr, .ref aPl, .ref aPt, .int nNs, .int nLi, .int nMi, .int nNx, .int nMv, .int nOn, .ref aKn, .ref aHa, .int nLa, .int nCl, .int nLn, .ref aKt, .ref aHt, .int nTh]))] sz) := by
  refine Met.ofW (cc := cX8_goesBy) (maxL := 2) (ret := none) (by decide) rfl ?_
  intro p e s m args below meth c s₁ B hml hv
  obtain ⟨rfl, hsz, hP, hK, hD0, hG⟩ := hv
  have hx := B.exec
  have hb := B.bytes
  have hr := B.returns
  have hts := atoms_spec (ws := wsX8_goesBy) B.pre
  have hown : s.vm.findClass RX8 = some m.cls := findClass_of_methodNamed B.named
  have hlocks := B.notSynchronized
  subst hsz
  have hD := hD0.self (sz := s.heap.size)
  generalize hAe : va_A [(w0, .inr (8, [.ref aFk, .ref aFh, .int nSt, .ref aKi, .ref aOn, .ref aOt, .ref aWh, .int nIl, .int nBa, .int nGa, .ref aLe, .ref aWi, .ref aPr, .ref aPl, .ref aPt, .int nNs, .int nLi, .int nMi, .int nNx, .int nMv, .int nOn, .ref aKn, .ref aHa, .int nLa, .int nCl, .int nLn, .ref aKt, .ref aHt, .int nTh]))] s.heap.size = A at hD hG ⊢
  have hA : ∀ q : Nat, s.heap.size ≤ q → A q := fun q h => by rw [← hAe]; exact Or.inr h
  have hS : va_S A s.heap s.heap [] := va_S.rf
  have hP : va_P (dC, dI) vwCl [(w0, .inr (8, [.ref aFk, .ref aFh, .int nSt, .ref aKi, .ref aOn, .ref aOt, .ref aWh, .int nIl, .int nBa, .int nGa, .ref aLe, .ref aWi, .ref aPr, .ref aPl, .ref aPt, .int nNs, .int nLi, .int nMi, .int nNx, .int nMv, .int nOn, .ref aKn, .ref aHa, .int nLa, .int nCl, .int nLn, .ref aKt, .ref aHt, .int nTh]))] s.heap := hP
  have hl := lv_entry ([.ref w0, .int p1]) (n := 2) (Nat.le_of_ble_eq_true rfl)
  rw [lg_entry_eq]
  generalize (lg_sl ([.ref w0, .int p1]) ++ List.replicate (2 - (lg_sl ([.ref w0, .int p1])).length) Slot.unset).toArray = ls at hl ⊢
  have hl : lv_has ls 2 [(0, .ref w0), (1, .int p1)] := hl
  refine lv_aload_n hx hb dX8_goesBy_0 rfl (lv_at hl 0 rfl) ?_
  refine lv_dup hx hb dX8_goesBy_1 rfl ?_
  refine va_get (D := (dC, dI)) (ci := 8) (v := .int nMi) (C := RX8) (T := TX8) (N := 29) hx hb hts iX8_goesBy_X8 hown hK hP 0 rfl rfl 17 (by decide) (hts _ kX8_goesBy_1) (fun _ h9 => h9) rfl dX8_goesBy_2 ?_
  refine lv_iload_n hx hb dX8_goesBy_5 rfl (lv_at hl 1 rfl) ?_
  refine lv_iadd hx hb dX8_goesBy_6 ?_
  refine va_put (D := (dC, dI)) (ci := 8) (v := .int (nMi + p1)) (ty := .int) (C := RX8) (T := TX8) (N := 29) hx hb hts iX8_goesBy_X8 tyX8 tyX8_ok nmX8 hown hK hP hD hS 0 rfl rfl 17 (by decide) (hts _ kX8_goesBy_1) (fun _ h9 => h9) rfl (by decide +kernel) rfl rfl (Nat.le_of_ble_eq_true rfl) dX8_goesBy_7 (fun H locs hP hD hS => ?_)
  have hP : va_P (dC, dI) vwCl [(w0, .inr (8, [.ref aFk, .ref aFh, .int nSt, .ref aKi, .ref aOn, .ref aOt, .ref aWh, .int nIl, .int nBa, .int nGa, .ref aLe, .ref aWi, .ref aPr, .ref aPl, .ref aPt, .int nNs, .int nLi, .int (nMi + p1), .int nNx, .int nMv, .int nOn, .ref aKn, .ref aHa, .int nLa, .int nCl, .int nLn, .ref aKt, .ref aHt, .int nTh]))] H := hP
  have hD : va_D A [(w0, .inr (8, [.ref aFk, .ref aFh, .int nSt, .ref aKi, .ref aOn, .ref aOt, .ref aWh, .int nIl, .int nBa, .int nGa, .ref aLe, .ref aWi, .ref aPr, .ref aPl, .ref aPt, .int nNs, .int nLi, .int (nMi + p1), .int nNx, .int nMv, .int nOn, .ref aKn, .ref aHa, .int nLa, .int nCl, .int nLn, .ref aKt, .ref aHt, .int nTh]))] := hD
  refine lv_aload_n hx hb dX8_goesBy_10 rfl (lv_at hl 0 rfl) ?_
  refine va_get (D := (dC, dI)) (ci := 8) (v := .int nNx) (C := RX8) (T := TX8) (N := 29) hx hb hts iX8_goesBy_X8 hown hK hP 0 rfl rfl 18 (by decide) (hts _ kX8_goesBy_2) (fun _ h9 => h9) rfl dX8_goesBy_11 ?_
  refine lv_aload_n hx hb dX8_goesBy_14 rfl (lv_at hl 0 rfl) ?_
  refine va_get (D := (dC, dI)) (ci := 8) (v := .int nSt) (C := RX8) (T := TX8) (N := 29) hx hb hts iX8_goesBy_X8 hown hK hP 0 rfl rfl 2 (by decide) (hts _ kX8_goesBy_3) (fun _ h9 => h9) rfl dX8_goesBy_15 ?_
  refine lv_icmp_ne (tgt := 39) hx hb dX8_goesBy_18 (by decide) (fun c_1 => ?_) (fun c_1 => ?_)
  · refine lv_aload_n hx hb dX8_goesBy_39 rfl (lv_at hl 0 rfl) ?_
    refine va_get (D := (dC, dI)) (ci := 8) (v := .int (nMi + p1)) (C := RX8) (T := TX8) (N := 29) hx hb hts iX8_goesBy_X8 hown hK hP 0 rfl rfl 17 (by decide) (hts _ kX8_goesBy_1) (fun _ h9 => h9) rfl dX8_goesBy_40 ?_
    refine lv_aload_n hx hb dX8_goesBy_43 rfl (lv_at hl 0 rfl) ?_
    refine va_get (D := (dC, dI)) (ci := 8) (v := .int nLi) (C := RX8) (T := TX8) (N := 29) hx hb hts iX8_goesBy_X8 hown hK hP 0 rfl rfl 16 (by decide) (hts _ kX8_goesBy_4) (fun _ h9 => h9) rfl dX8_goesBy_44 ?_
    refine lv_icmp_lt (tgt := 65) hx hb dX8_goesBy_47 (by decide) (fun c_2 => ?_) (fun c_2 => ?_)
    · exact W.vret hx hb hr (fun t ht hW => ⟨⟨((nMi + p1), nNs, nCl, nLn), rfl, ⟨(by unfold oX8_goesBy_nMi; rfl), (by unfold oX8_goesBy_nNs; rw [if_neg c_1, if_pos c_2]), (by unfold oX8_goesBy_nCl; rw [if_neg c_1]), (by unfold oX8_goesBy_nLn; rw [if_neg c_1, if_pos c_2])⟩, (by (try dsimp only); rw [ht]; exact hP.sub [0] rfl), va_K.moved hW.alike hK, (by (try dsimp only); exact hD.sub [0] (by decide) rfl)⟩, hS.F ht⟩) hS.2.2 dX8_goesBy_65
    · refine lv_aload_n hx hb dX8_goesBy_50 rfl (lv_at hl 0 rfl) ?_
      refine lv_iconst (v := 3) hx hb dX8_goesBy_51 (by decide) ?_
      refine va_put (D := (dC, dI)) (ci := 8) (v := .int (3 : Int32)) (ty := .int) (C := RX8) (T := TX8) (N := 29) hx hb hts iX8_goesBy_X8 tyX8 tyX8_ok nmX8 hown hK hP hD hS 0 rfl rfl 15 (by decide) (hts _ kX8_goesBy_5) (fun _ h9 => h9) rfl (by decide +kernel) rfl rfl (Nat.le_of_ble_eq_true rfl) dX8_goesBy_52 (fun H locs hP hD hS => ?_)
      have hP : va_P (dC, dI) vwCl [(w0, .inr (8, [.ref aFk, .ref aFh, .int nSt, .ref aKi, .ref aOn, .ref aOt, .ref aWh, .int nIl, .int nBa, .int nGa, .ref aLe, .ref aWi, .ref aPr, .ref aPl, .ref aPt, .int (3 : Int32), .int nLi, .int (nMi + p1), .int nNx, .int nMv, .int nOn, .ref aKn, .ref aHa, .int nLa, .int nCl, .int nLn, .ref aKt, .ref aHt, .int nTh]))] H := hP
      have hD : va_D A [(w0, .inr (8, [.ref aFk, .ref aFh, .int nSt, .ref aKi, .ref aOn, .ref aOt, .ref aWh, .int nIl, .int nBa, .int nGa, .ref aLe, .ref aWi, .ref aPr, .ref aPl, .ref aPt, .int (3 : Int32), .int nLi, .int (nMi + p1), .int nNx, .int nMv, .int nOn, .ref aKn, .ref aHa, .int nLa, .int nCl, .int nLn, .ref aKt, .ref aHt, .int nTh]))] := hD
      refine lv_aload_n hx hb dX8_goesBy_55 rfl (lv_at hl 0 rfl) ?_
      refine lv_dup hx hb dX8_goesBy_56 rfl ?_
      refine va_get (D := (dC, dI)) (ci := 8) (v := .int nLn) (C := RX8) (T := TX8) (N := 29) hx hb hts iX8_goesBy_X8 hown hK hP 0 rfl rfl 25 (by decide) (hts _ kX8_goesBy_6) (fun _ h9 => h9) rfl dX8_goesBy_57 ?_
      refine lv_iconst (v := 1) hx hb dX8_goesBy_60 (by decide) ?_
      refine lv_iadd hx hb dX8_goesBy_61 ?_
      refine va_put (D := (dC, dI)) (ci := 8) (v := .int (nLn + (1 : Int32))) (ty := .int) (C := RX8) (T := TX8) (N := 29) hx hb hts iX8_goesBy_X8 tyX8 tyX8_ok nmX8 hown hK hP hD hS 0 rfl rfl 25 (by decide) (hts _ kX8_goesBy_6) (fun _ h9 => h9) rfl (by decide +kernel) rfl rfl (Nat.le_of_ble_eq_true rfl) dX8_goesBy_62 (fun H locs hP hD hS => ?_)
      have hP : va_P (dC, dI) vwCl [(w0, .inr (8, [.ref aFk, .ref aFh, .int nSt, .ref aKi, .ref aOn, .ref aOt, .ref aWh, .int nIl, .int nBa, .int nGa, .ref aLe, .ref aWi, .ref aPr, .ref aPl, .ref aPt, .int (3 : Int32), .int nLi, .int (nMi + p1), .int nNx, .int nMv, .int nOn, .ref aKn, .ref aHa, .int nLa, .int nCl, .int (nLn + (1 : Int32)), .ref aKt, .ref aHt, .int nTh]))] H := hP
      have hD : va_D A [(w0, .inr (8, [.ref aFk, .ref aFh, .int nSt, .ref aKi, .ref aOn, .ref aOt, .ref aWh, .int nIl, .int nBa, .int nGa, .ref aLe, .ref aWi, .ref aPr, .ref aPl, .ref aPt, .int (3 : Int32), .int nLi, .int (nMi + p1), .int nNx, .int nMv, .int nOn, .ref aKn, .ref aHa, .int nLa, .int nCl, .int (nLn + (1 : Int32)), .ref aKt, .ref aHt, .int nTh]))] := hD
      exact W.vret hx hb hr (fun t ht hW => ⟨⟨((nMi + p1), (3 : Int32), nCl, (nLn + (1 : Int32))), rfl, ⟨(by unfold oX8_goesBy_nMi; rfl), (by unfold oX8_goesBy_nNs; rw [if_neg c_1, if_neg c_2]), (by unfold oX8_goesBy_nCl; rw [if_neg c_1]), (by unfold oX8_goesBy_nLn; rw [if_neg c_1, if_neg c_2])⟩, (by (try dsimp only); rw [ht]; exact hP.sub [0] rfl), va_K.moved hW.alike hK, (by (try dsimp only); exact hD.sub [0] (by decide) rfl)⟩, hS.F ht⟩) hS.2.2 dX8_goesBy_65
  · refine lv_aload_n hx hb dX8_goesBy_21 rfl (lv_at hl 0 rfl) ?_
    refine lv_iconst (v := 2) hx hb dX8_goesBy_22 (by decide) ?_
    refine va_put (D := (dC, dI)) (ci := 8) (v := .int (2 : Int32)) (ty := .int) (C := RX8) (T := TX8) (N := 29) hx hb hts iX8_goesBy_X8 tyX8 tyX8_ok nmX8 hown hK hP hD hS 0 rfl rfl 15 (by decide) (hts _ kX8_goesBy_5) (fun _ h9 => h9) rfl (by decide +kernel) rfl rfl (Nat.le_of_ble_eq_true rfl) dX8_goesBy_23 (fun H locs hP hD hS => ?_)
    have hP : va_P (dC, dI) vwCl [(w0, .inr (8, [.ref aFk, .ref aFh, .int nSt, .ref aKi, .ref aOn, .ref aOt, .ref aWh, .int nIl, .int nBa, .int nGa, .ref aLe, .ref aWi, .ref aPr, .ref aPl, .ref aPt, .int (2 : Int32), .int nLi, .int (nMi + p1), .int nNx, .int nMv, .int nOn, .ref aKn, .ref aHa, .int nLa, .int nCl, .int nLn, .ref aKt, .ref aHt, .int nTh]))] H := hP
    have hD : va_D A [(w0, .inr (8, [.ref aFk, .ref aFh, .int nSt, .ref aKi, .ref aOn, .ref aOt, .ref aWh, .int nIl, .int nBa, .int nGa, .ref aLe, .ref aWi, .ref aPr, .ref aPl, .ref aPt, .int (2 : Int32), .int nLi, .int (nMi + p1), .int nNx, .int nMv, .int nOn, .ref aKn, .ref aHa, .int nLa, .int nCl, .int nLn, .ref aKt, .ref aHt, .int nTh]))] := hD
    refine lv_aload_n hx hb dX8_goesBy_26 rfl (lv_at hl 0 rfl) ?_
    refine lv_dup hx hb dX8_goesBy_27 rfl ?_
    refine va_get (D := (dC, dI)) (ci := 8) (v := .int nCl) (C := RX8) (T := TX8) (N := 29) hx hb hts iX8_goesBy_X8 hown hK hP 0 rfl rfl 24 (by decide) (hts _ kX8_goesBy_7) (fun _ h9 => h9) rfl dX8_goesBy_28 ?_
    refine lv_iconst (v := 1) hx hb dX8_goesBy_31 (by decide) ?_
    refine lv_iadd hx hb dX8_goesBy_32 ?_
    refine va_put (D := (dC, dI)) (ci := 8) (v := .int (nCl + (1 : Int32))) (ty := .int) (C := RX8) (T := TX8) (N := 29) hx hb hts iX8_goesBy_X8 tyX8 tyX8_ok nmX8 hown hK hP hD hS 0 rfl rfl 24 (by decide) (hts _ kX8_goesBy_7) (fun _ h9 => h9) rfl (by decide +kernel) rfl rfl (Nat.le_of_ble_eq_true rfl) dX8_goesBy_33 (fun H locs hP hD hS => ?_)
    have hP : va_P (dC, dI) vwCl [(w0, .inr (8, [.ref aFk, .ref aFh, .int nSt, .ref aKi, .ref aOn, .ref aOt, .ref aWh, .int nIl, .int nBa, .int nGa, .ref aLe, .ref aWi, .ref aPr, .ref aPl, .ref aPt, .int (2 : Int32), .int nLi, .int (nMi + p1), .int nNx, .int nMv, .int nOn, .ref aKn, .ref aHa, .int nLa, .int (nCl + (1 : Int32)), .int nLn, .ref aKt, .ref aHt, .int nTh]))] H := hP
    have hD : va_D A [(w0, .inr (8, [.ref aFk, .ref aFh, .int nSt, .ref aKi, .ref aOn, .ref aOt, .ref aWh, .int nIl, .int nBa, .int nGa, .ref aLe, .ref aWi, .ref aPr, .ref aPl, .ref aPt, .int (2 : Int32), .int nLi, .int (nMi + p1), .int nNx, .int nMv, .int nOn, .ref aKn, .ref aHa, .int nLa, .int (nCl + (1 : Int32)), .int nLn, .ref aKt, .ref aHt, .int nTh]))] := hD
    refine lv_goto (tgt := 65) hx hb dX8_goesBy_36 (by decide) ?_
    exact W.vret hx hb hr (fun t ht hW => ⟨⟨((nMi + p1), (2 : Int32), (nCl + (1 : Int32)), nLn), rfl, ⟨(by unfold oX8_goesBy_nMi; rfl), (by unfold oX8_goesBy_nNs; rw [if_pos c_1]), (by unfold oX8_goesBy_nCl; rw [if_pos c_1]), (by unfold oX8_goesBy_nLn; rw [if_pos c_1])⟩, (by (try dsimp only); rw [ht]; exact hP.sub [0] rfl), va_K.moved hW.alike hK, (by (try dsimp only); exact hD.sub [0] (by decide) rfl)⟩, hS.F ht⟩) hS.2.2 dX8_goesBy_65

/-! X8_moved -/
def jX8_moved_14_0 (nSt : Int32) (nIl : Int32) (nBa : Int32) (nGa : Int32) (nNs : Int32) (nLi : Int32) (nMi : Int32) (nNx : Int32) (nMv : Int32) (nOn : Int32) (nLa : Int32) (nCl : Int32) (nLn : Int32) (nTh : Int32) (p1 : Int32) : Int32 := (if p1 = 0 then (0 : Int32) else (1 : Int32))
theorem bjX8_moved_14_0 (nSt : Int32) (nIl : Int32) (nBa : Int32) (nGa : Int32) (nNs : Int32) (nLi : Int32) (nMi : Int32) (nNx : Int32) (nMv : Int32) (nOn : Int32) (nLa : Int32) (nCl : Int32) (nLn : Int32) (nTh : Int32) (p1 : Int32) : jX8_moved_14_0 nSt nIl nBa nGa nNs nLi nMi nNx nMv nOn nLa nCl nLn nTh p1 = 0 ∨ jX8_moved_14_0 nSt nIl nBa nGa nNs nLi nMi nNx nMv nOn nLa nCl nLn nTh p1 = 1 := by
  unfold jX8_moved_14_0
  repeat' split
  all_goals first | exact Or.inl rfl | exact Or.inr rfl
def rX8_moved (nSt : Int32) (nIl : Int32) (nBa : Int32) (nGa : Int32) (nNs : Int32) (nLi : Int32) (nMi : Int32) (nNx : Int32) (nMv : Int32) (nOn : Int32) (nLa : Int32) (nCl : Int32) (nLn : Int32) (nTh : Int32) (p1 : Int32) : Int32 := (if p1 = 0 then (1 : Int32) else (2 : Int32))
def oX8_moved_nNx (nSt : Int32) (nIl : Int32) (nBa : Int32) (nGa : Int32) (nNs : Int32) (nLi : Int32) (nMi : Int32) (nNx : Int32) (nMv : Int32) (nOn : Int32) (nLa : Int32) (nCl : Int32) (nLn : Int32) (nTh : Int32) (p1 : Int32) : Int32 := (nNx + (jX8_moved_14_0 nSt nIl nBa nGa nNs nLi nMi nNx nMv nOn nLa nCl nLn nTh p1))
def oX8_moved_nMv (nSt : Int32) (nIl : Int32) (nBa : Int32) (nGa : Int32) (nNs : Int32) (nLi : Int32) (nMi : Int32) (nNx : Int32) (nMv : Int32) (nOn : Int32) (nLa : Int32) (nCl : Int32) (nLn : Int32) (nTh : Int32) (p1 : Int32) : Int32 := (nMv + (1 : Int32))
def oX8_moved_nMi (nSt : Int32) (nIl : Int32) (nBa : Int32) (nGa : Int32) (nNs : Int32) (nLi : Int32) (nMi : Int32) (nNx : Int32) (nMv : Int32) (nOn : Int32) (nLa : Int32) (nCl : Int32) (nLn : Int32) (nTh : Int32) (p1 : Int32) : Int32 := (oX8_goesBy_nMi nSt nIl nBa nGa nNs nLi nMi (nNx + (jX8_moved_14_0 nSt nIl nBa nGa nNs nLi nMi nNx nMv nOn nLa nCl nLn nTh p1)) (nMv + (1 : Int32)) nOn nLa nCl nLn nTh (1 : Int32))
def oX8_moved_nNs (nSt : Int32) (nIl : Int32) (nBa : Int32) (nGa : Int32) (nNs : Int32) (nLi : Int32) (nMi : Int32) (nNx : Int32) (nMv : Int32) (nOn : Int32) (nLa : Int32) (nCl : Int32) (nLn : Int32) (nTh : Int32) (p1 : Int32) : Int32 := (oX8_goesBy_nNs nSt nIl nBa nGa nNs nLi nMi (nNx + (jX8_moved_14_0 nSt nIl nBa nGa nNs nLi nMi nNx nMv nOn nLa nCl nLn nTh p1)) (nMv + (1 : Int32)) nOn nLa nCl nLn nTh (1 : Int32))
def oX8_moved_nCl (nSt : Int32) (nIl : Int32) (nBa : Int32) (nGa : Int32) (nNs : Int32) (nLi : Int32) (nMi : Int32) (nNx : Int32) (nMv : Int32) (nOn : Int32) (nLa : Int32) (nCl : Int32) (nLn : Int32) (nTh : Int32) (p1 : Int32) : Int32 := (oX8_goesBy_nCl nSt nIl nBa nGa nNs nLi nMi (nNx + (jX8_moved_14_0 nSt nIl nBa nGa nNs nLi nMi nNx nMv nOn nLa nCl nLn nTh p1)) (nMv + (1 : Int32)) nOn nLa nCl nLn nTh (1 : Int32))
def oX8_moved_nLn (nSt : Int32) (nIl : Int32) (nBa : Int32) (nGa : Int32) (nNs : Int32) (nLi : Int32) (nMi : Int32) (nNx : Int32) (nMv : Int32) (nOn : Int32) (nLa : Int32) (nCl : Int32) (nLn : Int32) (nTh : Int32) (p1 : Int32) : Int32 := (oX8_goesBy_nLn nSt nIl nBa nGa nNs nLi nMi (nNx + (jX8_moved_14_0 nSt nIl nBa nGa nNs nLi nMi nNx nMv nOn nLa nCl nLn nTh p1)) (nMv + (1 : Int32)) nOn nLa nCl nLn nTh (1 : Int32))
set_option maxRecDepth 20000 in
theorem iX8_moved_X8 : ∀ w ∈ u_ws RX8 TX8 29, w ∈ wsX8_moved := by decide +kernel
set_option maxRecDepth 20000 in
theorem kX8_moved_1 : Cond.fieldLink RX8 43 "MaskHallModel" "next" "I" ∈ wsX8_moved := by decide +kernel
set_option maxRecDepth 20000 in
theorem kX8_moved_2 : Cond.fieldLink RX8 120 "MaskHallModel" "moves" "I" ∈ wsX8_moved := by decide +kernel
set_option maxHeartbeats 700000 in
set_option maxRecDepth 100000 in
theorem c_X8_moved (l : Launch) (dC : Nat → ClassId) (dI : Nat → Nat → Nat) (cI cJ : ClassId) (w0 aFk aFh aKi aOn aOt aWh aLe aWi aPr aPl aPt aKn aHa aKt aHt : Nat) (sz : Nat) (nSt : Int32) (nIl : Int32) (nBa : Int32) (nGa : Int32) (nNs : Int32) (nLi : Int32) (nMi : Int32) (nNx : Int32) (nMv : Int32) (nOn : Int32) (nLa : Int32) (nCl : Int32) (nLn : Int32) (nTh : Int32) (p1 : Int32) : Met l yX8_moved wsX8_moved ({ frames := 1, cells := 0, slots := 0, locals := 21 }) (va_Pc [.ref w0, .int p1] (zI (dC, dI) [(cI, .int), (cJ, .long)] [(w0, .inr (8, [.ref aFk, .ref aFh, .int nSt, .ref aKi, .ref aOn, .ref aOt, .ref aWh, .int nIl, .int nBa, .int nGa, .ref aLe, .ref aWi, .ref aPr, .ref aPl, .ref aPt, .int nNs, .int nLi, .int nMi, .int nNx, .int nMv, .int nOn, .ref aKn, .ref aHa, .int nLa, .int nCl, .int nLn, .ref aKt, .ref aHt, .int nTh]))] sz)) (va_Qi (fun (r : Int32) (u : (Int32) × (Int32) × (Int32) × (Int32) × (Int32) × (Int32)) => r = rX8_moved nSt nIl nBa nGa nNs nLi nMi nNx nMv nOn nLa nCl nLn nTh p1 ∧ u.1 = oX8_moved_nNx nSt nIl nBa nGa nNs nLi nMi nNx nMv nOn nLa nCl nLn nTh p1 ∧ u.2.1 = oX8_moved_nMv nSt nIl nBa nGa nNs nLi nMi nNx nMv nOn nLa nCl nLn nTh p1 ∧ u.2.2.1 = oX8_moved_nMi nSt nIl nBa nGa nNs nLi nMi nNx nMv nOn nLa nCl nLn nTh p1 ∧ u.2.2.2.1 = oX8_moved_nNs nSt nIl nBa nGa nNs nLi nMi nNx nMv nOn nLa nCl nLn nTh p1 ∧ u.2.2.2.2.1 = oX8_moved_nCl nSt nIl nBa nGa nNs nLi nMi nNx nMv nOn nLa nCl nLn nTh p1 ∧ u.2.2.2.2.2 = oX8_moved_nLn nSt nIl nBa nGa nNs nLi nMi nNx nMv nOn nLa nCl nLn nTh p1) (fun u => zO (dC, dI) [(cI, .int), (cJ, .long)] [(w0, .inr (8, [.ref aFk, .ref aFh, .int nSt, .ref aKi, .ref aOn, .ref aOt, .ref aWh, .int nIl, .int nBa, .int nGa, .ref aLe, .ref aWi, .ref aPr, .ref aPl, .ref aPt, .int u.2.2.2.1, .int nLi, .int u.2.2.1, .int u.1, .int u.2.1, .int nOn, .ref aKn, .ref aHa, .int nLa, .int u.2.2.2.2.1, .int u.2.2.2.2.2, .ref aKt, .ref aHt, .int nTh]))] (va_A [(w0, .inr (8, [.ref aFk, .ref aFh, .int nSt, .ref aKi, .ref aOn, .ref aOt, .ref aWh, .int nIl, .int nBa, .int nGa, .ref aLe, .ref aWi, .ref aPr, .ref aPl, .ref aPt, .int nNs, .int nLi, .int nMi, .int nNx, .int nMv, .int nOn, .ref aKn, .ref aHa, .int nLa, .int nCl, .int nLn, .ref aKt, .ref aHt, .int nTh]))] sz)) (va_A [(w0, .inr (8, [.ref aFk, .ref aFh, .int nSt, .ref aKi, .ref aOn, .ref aOt, .ref aWh, .int nIl, .int nBa, .int nGa, .ref aLe, .ref aWi, .ref aPr, .ref aPl, .ref aPt, .int nNs, .int nLi, .int nMi, .int nNx, .int nMv, .int nOn, .ref aKn, .ref aHa, .int nLa, .int nCl, .int nLn, .ref aKt, .ref aHt, .int nTh]))] sz)) 0 0 (va_A [(w0, .inr (8, [.ref aFk, .ref aFh, .int nSt, .ref aKi, .ref aOn, .ref aOt, .ref aWh, .int nIl, .int nBa, .int nGa, .ref aLe, .ref aWi, .ref aPr, .ref aPl, .ref aPt, .int nNs, .int nLi, .int nMi, .int nNx, .int nMv, .int nOn, .ref aKn, .ref aHa, .int nLa, .int nCl, .int nLn, .ref aKt, .ref aHt, .int nTh]))] sz) := by
  refine Met.ofW (cc := cX8_moved) (maxL := 2) (ret := (some .int)) (by decide) rfl ?_
  intro p e s m args below meth c s₁ B hml hv
  obtain ⟨rfl, hsz, hP, hK, hD0, hG⟩ := hv
  have hx := B.exec
  have hb := B.bytes
  have hr := B.returns
  have hts := atoms_spec (ws := wsX8_moved) B.pre
  have hown : s.vm.findClass RX8 = some m.cls := findClass_of_methodNamed B.named
  have hlocks := B.notSynchronized
  subst hsz
  have hD := hD0.self (sz := s.heap.size)
  generalize hAe : va_A [(w0, .inr (8, [.ref aFk, .ref aFh, .int nSt, .ref aKi, .ref aOn, .ref aOt, .ref aWh, .int nIl, .int nBa, .int nGa, .ref aLe, .ref aWi, .ref aPr, .ref aPl, .ref aPt, .int nNs, .int nLi, .int nMi, .int nNx, .int nMv, .int nOn, .ref aKn, .ref aHa, .int nLa, .int nCl, .int nLn, .ref aKt, .ref aHt, .int nTh]))] s.heap.size = A at hD hG ⊢
  have hA : ∀ q : Nat, s.heap.size ≤ q → A q := fun q h => by rw [← hAe]; exact Or.inr h
  have hS : va_S A s.heap s.heap [] := va_S.rf
  have hP : va_P (dC, dI) vwCl [(w0, .inr (8, [.ref aFk, .ref aFh, .int nSt, .ref aKi, .ref aOn, .ref aOt, .ref aWh, .int nIl, .int nBa, .int nGa, .ref aLe, .ref aWi, .ref aPr, .ref aPl, .ref aPt, .int nNs, .int nLi, .int nMi, .int nNx, .int nMv, .int nOn, .ref aKn, .ref aHa, .int nLa, .int nCl, .int nLn, .ref aKt, .ref aHt, .int nTh]))] s.heap := hP
  have hl := lv_entry ([.ref w0, .int p1]) (n := 2) (Nat.le_of_ble_eq_true rfl)
  rw [lg_entry_eq]
  generalize (lg_sl ([.ref w0, .int p1]) ++ List.replicate (2 - (lg_sl ([.ref w0, .int p1])).length) Slot.unset).toArray = ls at hl ⊢
  have hl : lv_has ls 2 [(0, .ref w0), (1, .int p1)] := hl
  refine lv_aload_n hx hb dX8_moved_0 rfl (lv_at hl 0 rfl) ?_
  refine lv_dup hx hb dX8_moved_1 rfl ?_
  refine va_get (D := (dC, dI)) (ci := 8) (v := .int nNx) (C := RX8) (T := TX8) (N := 29) hx hb hts iX8_moved_X8 hown hK hP 0 rfl rfl 18 (by decide) (hts _ kX8_moved_1) (fun _ h9 => h9) rfl dX8_moved_2 ?_
  refine lv_iload_n hx hb dX8_moved_5 rfl (lv_at hl 1 rfl) ?_
  refine zNm (fun R9 Q9 hR9 hQ9 => ?_)
  have J14 : ∀ (v14_0 : Int32), v14_0 = (jX8_moved_14_0 nSt nIl nBa nGa nNs nLi nMi nNx nMv nOn nLa nCl nLn nTh p1) → ∀ (ls : Array Slot), lv_has ls 2 [(0, .ref w0), (1, .int p1)] → W p l e R9 s m ([.ref w0, .int p1] : List Value).toArray below meth c s.heap [] 0 0 Q9 (F0 m 14 ls [.int v14_0, .int nNx, .ref w0]) := by
    subst hR9; subst hQ9
    intro v14_0 hvv14_0
    rw [hvv14_0]; clear hvv14_0 v14_0
    intro ls hl
    refine lv_iadd hx hb dX8_moved_14 ?_
    refine va_put (D := (dC, dI)) (ci := 8) (v := .int (nNx + (jX8_moved_14_0 nSt nIl nBa nGa nNs nLi nMi nNx nMv nOn nLa nCl nLn nTh p1))) (ty := .int) (C := RX8) (T := TX8) (N := 29) hx hb hts iX8_moved_X8 tyX8 tyX8_ok nmX8 hown hK hP hD hS 0 rfl rfl 18 (by decide) (hts _ kX8_moved_1) (fun _ h9 => h9) rfl (by decide +kernel) rfl rfl (Nat.le_of_ble_eq_true rfl) dX8_moved_15 (fun H locs hP hD hS => ?_)
    have hP : va_P (dC, dI) vwCl [(w0, .inr (8, [.ref aFk, .ref aFh, .int nSt, .ref aKi, .ref aOn, .ref aOt, .ref aWh, .int nIl, .int nBa, .int nGa, .ref aLe, .ref aWi, .ref aPr, .ref aPl, .ref aPt, .int nNs, .int nLi, .int nMi, .int (nNx + (jX8_moved_14_0 nSt nIl nBa nGa nNs nLi nMi nNx nMv nOn nLa nCl nLn nTh p1)), .int nMv, .int nOn, .ref aKn, .ref aHa, .int nLa, .int nCl, .int nLn, .ref aKt, .ref aHt, .int nTh]))] H := hP
    have hD : va_D A [(w0, .inr (8, [.ref aFk, .ref aFh, .int nSt, .ref aKi, .ref aOn, .ref aOt, .ref aWh, .int nIl, .int nBa, .int nGa, .ref aLe, .ref aWi, .ref aPr, .ref aPl, .ref aPt, .int nNs, .int nLi, .int nMi, .int (nNx + (jX8_moved_14_0 nSt nIl nBa nGa nNs nLi nMi nNx nMv nOn nLa nCl nLn nTh p1)), .int nMv, .int nOn, .ref aKn, .ref aHa, .int nLa, .int nCl, .int nLn, .ref aKt, .ref aHt, .int nTh]))] := hD
    refine lv_aload_n hx hb dX8_moved_18 rfl (lv_at hl 0 rfl) ?_
    refine lv_dup hx hb dX8_moved_19 rfl ?_
    refine va_get (D := (dC, dI)) (ci := 8) (v := .int nMv) (C := RX8) (T := TX8) (N := 29) hx hb hts iX8_moved_X8 hown hK hP 0 rfl rfl 19 (by decide) (hts _ kX8_moved_2) (fun _ h9 => h9) rfl dX8_moved_20 ?_
    refine lv_iconst (v := 1) hx hb dX8_moved_23 (by decide) ?_
    refine lv_iadd hx hb dX8_moved_24 ?_
    refine va_put (D := (dC, dI)) (ci := 8) (v := .int (nMv + (1 : Int32))) (ty := .int) (C := RX8) (T := TX8) (N := 29) hx hb hts iX8_moved_X8 tyX8 tyX8_ok nmX8 hown hK hP hD hS 0 rfl rfl 19 (by decide) (hts _ kX8_moved_2) (fun _ h9 => h9) rfl (by decide +kernel) rfl rfl (Nat.le_of_ble_eq_true rfl) dX8_moved_25 (fun H locs hP hD hS => ?_)
    have hP : va_P (dC, dI) vwCl [(w0, .inr (8, [.ref aFk, .ref aFh, .int nSt, .ref aKi, .ref aOn, .ref aOt, .ref aWh, .int nIl, .int nBa, .int nGa, .ref aLe, .ref aWi, .ref aPr, .ref aPl, .ref aPt, .int nNs, .int nLi, .int nMi, .int (nNx + (jX8_moved_14_0 nSt nIl nBa nGa nNs nLi nMi nNx nMv nOn nLa nCl nLn nTh p1)), .int (nMv + (1 : Int32)), .int nOn, .ref aKn, .ref aHa, .int nLa, .int nCl, .int nLn, .ref aKt, .ref aHt, .int nTh]))] H := hP
    have hD : va_D A [(w0, .inr (8, [.ref aFk, .ref aFh, .int nSt, .ref aKi, .ref aOn, .ref aOt, .ref aWh, .int nIl, .int nBa, .int nGa, .ref aLe, .ref aWi, .ref aPr, .ref aPl, .ref aPt, .int nNs, .int nLi, .int nMi, .int (nNx + (jX8_moved_14_0 nSt nIl nBa nGa nNs nLi nMi nNx nMv nOn nLa nCl nLn nTh p1)), .int (nMv + (1 : Int32)), .int nOn, .ref aKn, .ref aHa, .int nLa, .int nCl, .int nLn, .ref aKt, .ref aHt, .int nTh]))] := hD
    refine lv_aload_n hx hb dX8_moved_28 rfl (lv_at hl 0 rfl) ?_
    refine lv_iconst (v := 1) hx hb dX8_moved_29 (by decide) ?_
    refine zkV (wr := []) (u0 := ((oX8_goesBy_nMi nSt nIl nBa nGa nNs nLi nMi (nNx + (jX8_moved_14_0 nSt nIl nBa nGa nNs nLi nMi nNx nMv nOn nLa nCl nLn nTh p1)) (nMv + (1 : Int32)) nOn nLa nCl nLn nTh (1 : Int32)), (oX8_goesBy_nNs nSt nIl nBa nGa nNs nLi nMi (nNx + (jX8_moved_14_0 nSt nIl nBa nGa nNs nLi nMi nNx nMv nOn nLa nCl nLn nTh p1)) (nMv + (1 : Int32)) nOn nLa nCl nLn nTh (1 : Int32)), (oX8_goesBy_nCl nSt nIl nBa nGa nNs nLi nMi (nNx + (jX8_moved_14_0 nSt nIl nBa nGa nNs nLi nMi nNx nMv nOn nLa nCl nLn nTh p1)) (nMv + (1 : Int32)) nOn nLa nCl nLn nTh (1 : Int32)), (oX8_goesBy_nLn nSt nIl nBa nGa nNs nLi nMi (nNx + (jX8_moved_14_0 nSt nIl nBa nGa nNs nLi nMi nNx nMv nOn nLa nCl nLn nTh p1)) (nMv + (1 : Int32)) nOn nLa nCl nLn nTh (1 : Int32)))) (va_runV (As := [.int (1 : Int32)]) (rest := []) ⟨hx, hb, hml, hown, hts⟩ (c_X8_goesBy l dC dI cI cJ w0 aFk aFh aKi aOn aOt aWh aLe aWi aPr aPl aPt aKn aHa aKt aHt H.size nSt nIl nBa nGa nNs nLi nMi (nNx + (jX8_moved_14_0 nSt nIl nBa nGa nNs nLi nMi nNx nMv nOn nLa nCl nLn nTh p1)) (nMv + (1 : Int32)) nOn nLa nCl nLn nTh (1 : Int32) ) (cwV 1 hts gX8_moved_X8_goesBy rfl rfl rfl (by decide +kernel) ⟨Nat.le_of_ble_eq_true rfl, Nat.le_of_ble_eq_true rfl⟩) (zpV hK hP hD hS hA hG [0] (by decide) rfl 8 0 rfl rfl) rfl rfl hl.1 rfl (lv_room (Nat.le_of_ble_eq_true rfl)) dX8_moved_30 ⟨Nat.le_of_ble_eq_true rfl, Nat.le_of_ble_eq_true rfl⟩) (fun u h => zT4 h.1 h.2.1 h.2.2.1 h.2.2.2) hP hD hS hA [0] [] rfl rfl (by decide) (by decide) (fun H locs hP hD hS => ?_)
    try dsimp only [List.cons_append, List.nil_append] at hP hD
    have hP : va_P (dC, dI) vwCl [(w0, .inr (8, [.ref aFk, .ref aFh, .int nSt, .ref aKi, .ref aOn, .ref aOt, .ref aWh, .int nIl, .int nBa, .int nGa, .ref aLe, .ref aWi, .ref aPr, .ref aPl, .ref aPt, .int (oX8_goesBy_nNs nSt nIl nBa nGa nNs nLi nMi (nNx + (jX8_moved_14_0 nSt nIl nBa nGa nNs nLi nMi nNx nMv nOn nLa nCl nLn nTh p1)) (nMv + (1 : Int32)) nOn nLa nCl nLn nTh (1 : Int32)), .int nLi, .int (oX8_goesBy_nMi nSt nIl nBa nGa nNs nLi nMi (nNx + (jX8_moved_14_0 nSt nIl nBa nGa nNs nLi nMi nNx nMv nOn nLa nCl nLn nTh p1)) (nMv + (1 : Int32)) nOn nLa nCl nLn nTh (1 : Int32)), .int (nNx + (jX8_moved_14_0 nSt nIl nBa nGa nNs nLi nMi nNx nMv nOn nLa nCl nLn nTh p1)), .int (nMv + (1 : Int32)), .int nOn, .ref aKn, .ref aHa, .int nLa, .int (oX8_goesBy_nCl nSt nIl nBa nGa nNs nLi nMi (nNx + (jX8_moved_14_0 nSt nIl nBa nGa nNs nLi nMi nNx nMv nOn nLa nCl nLn nTh p1)) (nMv + (1 : Int32)) nOn nLa nCl nLn nTh (1 : Int32)), .int (oX8_goesBy_nLn nSt nIl nBa nGa nNs nLi nMi (nNx + (jX8_moved_14_0 nSt nIl nBa nGa nNs nLi nMi nNx nMv nOn nLa nCl nLn nTh p1)) (nMv + (1 : Int32)) nOn nLa nCl nLn nTh (1 : Int32)), .ref aKt, .ref aHt, .int nTh]))] H := hP
    have hD : va_D A [(w0, .inr (8, [.ref aFk, .ref aFh, .int nSt, .ref aKi, .ref aOn, .ref aOt, .ref aWh, .int nIl, .int nBa, .int nGa, .ref aLe, .ref aWi, .ref aPr, .ref aPl, .ref aPt, .int (oX8_goesBy_nNs nSt nIl nBa nGa nNs nLi nMi (nNx + (jX8_moved_14_0 nSt nIl nBa nGa nNs nLi nMi nNx nMv nOn nLa nCl nLn nTh p1)) (nMv + (1 : Int32)) nOn nLa nCl nLn nTh (1 : Int32)), .int nLi, .int (oX8_goesBy_nMi nSt nIl nBa nGa nNs nLi nMi (nNx + (jX8_moved_14_0 nSt nIl nBa nGa nNs nLi nMi nNx nMv nOn nLa nCl nLn nTh p1)) (nMv + (1 : Int32)) nOn nLa nCl nLn nTh (1 : Int32)), .int (nNx + (jX8_moved_14_0 nSt nIl nBa nGa nNs nLi nMi nNx nMv nOn nLa nCl nLn nTh p1)), .int (nMv + (1 : Int32)), .int nOn, .ref aKn, .ref aHa, .int nLa, .int (oX8_goesBy_nCl nSt nIl nBa nGa nNs nLi nMi (nNx + (jX8_moved_14_0 nSt nIl nBa nGa nNs nLi nMi nNx nMv nOn nLa nCl nLn nTh p1)) (nMv + (1 : Int32)) nOn nLa nCl nLn nTh (1 : Int32)), .int (oX8_goesBy_nLn nSt nIl nBa nGa nNs nLi nMi (nNx + (jX8_moved_14_0 nSt nIl nBa nGa nNs nLi nMi nNx nMv nOn nLa nCl nLn nTh p1)) (nMv + (1 : Int32)) nOn nLa nCl nLn nTh (1 : Int32)), .ref aKt, .ref aHt, .int nTh]))] := hD
    refine lv_iload_n hx hb dX8_moved_33 rfl (lv_at hl 1 rfl) ?_
    refine lv_if_eq (tgt := 41) hx hb dX8_moved_34 (by decide) (fun c_1 => ?_) (fun c_1 => ?_)
    · refine lv_iconst (v := 1) hx hb dX8_moved_41 (by decide) ?_
      exact W.iret (v := (1 : Int32)) hx hb hr (fun t ht hW => ⟨⟨(1 : Int32), ((nNx + (jX8_moved_14_0 nSt nIl nBa nGa nNs nLi nMi nNx nMv nOn nLa nCl nLn nTh p1)), (nMv + (1 : Int32)), (oX8_goesBy_nMi nSt nIl nBa nGa nNs nLi nMi (nNx + (jX8_moved_14_0 nSt nIl nBa nGa nNs nLi nMi nNx nMv nOn nLa nCl nLn nTh p1)) (nMv + (1 : Int32)) nOn nLa nCl nLn nTh (1 : Int32)), (oX8_goesBy_nNs nSt nIl nBa nGa nNs nLi nMi (nNx + (jX8_moved_14_0 nSt nIl nBa nGa nNs nLi nMi nNx nMv nOn nLa nCl nLn nTh p1)) (nMv + (1 : Int32)) nOn nLa nCl nLn nTh (1 : Int32)), (oX8_goesBy_nCl nSt nIl nBa nGa nNs nLi nMi (nNx + (jX8_moved_14_0 nSt nIl nBa nGa nNs nLi nMi nNx nMv nOn nLa nCl nLn nTh p1)) (nMv + (1 : Int32)) nOn nLa nCl nLn nTh (1 : Int32)), (oX8_goesBy_nLn nSt nIl nBa nGa nNs nLi nMi (nNx + (jX8_moved_14_0 nSt nIl nBa nGa nNs nLi nMi nNx nMv nOn nLa nCl nLn nTh p1)) (nMv + (1 : Int32)) nOn nLa nCl nLn nTh (1 : Int32))), rfl, ⟨(by unfold rX8_moved; rw [if_pos c_1]), (by unfold oX8_moved_nNx; rfl), (by unfold oX8_moved_nMv; rfl), (by unfold oX8_moved_nMi; rfl), (by unfold oX8_moved_nNs; rfl), (by unfold oX8_moved_nCl; rfl), (by unfold oX8_moved_nLn; rfl)⟩, (by (try dsimp only); rw [ht]; exact hP.sub [0] rfl), va_K.moved hW.alike hK, (by (try dsimp only); exact hD.sub [0] (by decide) rfl)⟩, hS.F ht⟩) hS.2.2 dX8_moved_42
    · refine lv_iconst (v := 2) hx hb dX8_moved_37 (by decide) ?_
      refine lv_goto (tgt := 42) hx hb dX8_moved_38 (by decide) ?_
      exact W.iret (v := (2 : Int32)) hx hb hr (fun t ht hW => ⟨⟨(2 : Int32), ((nNx + (jX8_moved_14_0 nSt nIl nBa nGa nNs nLi nMi nNx nMv nOn nLa nCl nLn nTh p1)), (nMv + (1 : Int32)), (oX8_goesBy_nMi nSt nIl nBa nGa nNs nLi nMi (nNx + (jX8_moved_14_0 nSt nIl nBa nGa nNs nLi nMi nNx nMv nOn nLa nCl nLn nTh p1)) (nMv + (1 : Int32)) nOn nLa nCl nLn nTh (1 : Int32)), (oX8_goesBy_nNs nSt nIl nBa nGa nNs nLi nMi (nNx + (jX8_moved_14_0 nSt nIl nBa nGa nNs nLi nMi nNx nMv nOn nLa nCl nLn nTh p1)) (nMv + (1 : Int32)) nOn nLa nCl nLn nTh (1 : Int32)), (oX8_goesBy_nCl nSt nIl nBa nGa nNs nLi nMi (nNx + (jX8_moved_14_0 nSt nIl nBa nGa nNs nLi nMi nNx nMv nOn nLa nCl nLn nTh p1)) (nMv + (1 : Int32)) nOn nLa nCl nLn nTh (1 : Int32)), (oX8_goesBy_nLn nSt nIl nBa nGa nNs nLi nMi (nNx + (jX8_moved_14_0 nSt nIl nBa nGa nNs nLi nMi nNx nMv nOn nLa nCl nLn nTh p1)) (nMv + (1 : Int32)) nOn nLa nCl nLn nTh (1 : Int32))), rfl, ⟨(by unfold rX8_moved; rw [if_neg c_1]), (by unfold oX8_moved_nNx; rfl), (by unfold oX8_moved_nMv; rfl), (by unfold oX8_moved_nMi; rfl), (by unfold oX8_moved_nNs; rfl), (by unfold oX8_moved_nCl; rfl), (by unfold oX8_moved_nLn; rfl)⟩, (by (try dsimp only); rw [ht]; exact hP.sub [0] rfl), va_K.moved hW.alike hK, (by (try dsimp only); exact hD.sub [0] (by decide) rfl)⟩, hS.F ht⟩) hS.2.2 dX8_moved_42
  subst hR9; subst hQ9
  refine lv_if_eq (tgt := 13) hx hb dX8_moved_6 (by decide) (fun c_2 => ?_) (fun c_2 => ?_)
  · refine lv_iconst (v := 0) hx hb dX8_moved_13 (by decide) ?_
    exact J14 (0 : Int32) (by unfold jX8_moved_14_0; rw [if_pos c_2]) _ (lv_sub hl [0, 1] rfl)
  · refine lv_iconst (v := 1) hx hb dX8_moved_9 (by decide) ?_
    refine lv_goto (tgt := 14) hx hb dX8_moved_10 (by decide) ?_
    exact J14 (1 : Int32) (by unfold jX8_moved_14_0; rw [if_neg c_2]) _ (lv_sub hl [0, 1] rfl)
