/-! X7_needPlay -/
def xX7_needPlay (ni : Int32) (li : Int32) (mi : Int32) (mv : Int32) (nx : Int32) (al : Int32) (nc : Int32) (nl : Int32) : Nat := (if ni = (1 : Int32) then 0 else 3)
set_option maxRecDepth 20000 in
theorem iX7_needPlay_X7 : ∀ w ∈ u_ws RX7 TX7 16, w ∈ wsX7_needPlay := by decide +kernel
set_option maxRecDepth 20000 in
theorem kX7_needPlay_1 : Cond.fieldLink RX7 70 "MaskHall" "nightIs" "I" ∈ wsX7_needPlay := by decide +kernel
set_option maxRecDepth 20000 in
theorem tX7_needPlay_118 : ∀ w ∈ (vx_atS RX7 118 "java/lang/IllegalStateException" ["java/lang/RuntimeException", "java/lang/Exception"]).filter goodWord, w ∈ wsX7_needPlay := by decide +kernel
set_option maxRecDepth 20000 in
theorem kX7_needPlay_3 : Cond.classLink RX7 114 "java/lang/IllegalStateException" ∈ wsX7_needPlay := by decide +kernel
set_option maxRecDepth 20000 in
theorem kX7_needPlay_4 : Cond.initialized "java/lang/IllegalStateException" ∈ wsX7_needPlay := by decide +kernel
set_option maxHeartbeats 280000 in
set_option maxRecDepth 100000 in
theorem c_X7_needPlay (l : Launch) (hfl : l.stackTraces = false) (dC : Nat → ClassId) (dI : Nat → Nat → Nat) (cI cJ : ClassId) (mh ca la sg pl rw tw ga pa : Nat) (sz : Nat) (ni : Int32) (li : Int32) (mi : Int32) (mv : Int32) (nx : Int32) (al : Int32) (nc : Int32) (nl : Int32) : vx_Met l yX7_needPlay wsX7_needPlay ({ frames := 6, cells := 1, slots := 6, locals := 82 }) (va_Pc [.ref mh] (zI (dC, dI) [(cI, .int), (cJ, .long)] [(mh, .inr (7, [.ref ca, .ref la, .ref sg, .ref pl, .ref rw, .ref tw, .ref ga, .ref pa, .int ni, .int li, .int mi, .int mv, .int nx, .int al, .int nc, .int nl]))] sz)) (va_Sv (fun _ => xX7_needPlay ni li mi mv nx al nc nl = 0)) (zX (fun k => xX7_needPlay ni li mi mv nx al nc nl = k ∧ k ≠ 0) sz) 1 6 (fun _ => False) := by
  refine vx_ofW (cc := cX7_needPlay) (maxL := 1) (ret := none) (by decide) rfl ?_
  intro p e s m args below meth c s₁ B hml hto hv
  obtain ⟨rfl, hsz, hP, hK, hD0, hG⟩ := hv
  have hx := B.exec
  have hb := B.bytes
  have hr := B.returns
  have hts := atoms_spec (ws := wsX7_needPlay) B.pre
  have hown : s.vm.findClass RX7 = some m.cls := findClass_of_methodNamed B.named
  have hlocks := B.notSynchronized
  subst hsz
  have hD := hD0.self (sz := s.heap.size)
  generalize hAe : va_A [(mh, .inr (7, [.ref ca, .ref la, .ref sg, .ref pl, .ref rw, .ref tw, .ref ga, .ref pa, .int ni, .int li, .int mi, .int mv, .int nx, .int al, .int nc, .int nl]))] s.heap.size = A at hD hG
  have hA : ∀ q : Nat, s.heap.size ≤ q → A q := fun q h => by rw [← hAe]; exact Or.inr h
  have hS : va_S A s.heap s.heap [] := va_S.rf
  have hP : va_P (dC, dI) vwCl [(mh, .inr (7, [.ref ca, .ref la, .ref sg, .ref pl, .ref rw, .ref tw, .ref ga, .ref pa, .int ni, .int li, .int mi, .int mv, .int nx, .int al, .int nc, .int nl]))] s.heap := hP
  have hl := lv_entry ([.ref mh]) (n := 1) (Nat.le_of_ble_eq_true rfl)
  rw [lg_entry_eq]
  generalize (lg_sl ([.ref mh]) ++ List.replicate (1 - (lg_sl ([.ref mh])).length) Slot.unset).toArray = ls at hl ⊢
  have hl : lv_has ls 1 [(0, .ref mh)] := hl
  refine lv_aload_n hx hb dX7_needPlay_0 rfl (lv_at hl 0 rfl) ?_
  refine va_get (D := (dC, dI)) (ci := 7) (v := .int ni) (C := RX7) (T := TX7) (N := 16) hx hb hts iX7_needPlay_X7 hown hK hP 0 rfl rfl 8 (by decide) (hts _ kX7_needPlay_1) (fun _ h9 => h9) rfl dX7_needPlay_1 ?_
  refine lv_iconst (v := 1) hx hb dX7_needPlay_4 (by decide) ?_
  refine lv_icmp_eq (tgt := 19) hx hb dX7_needPlay_5 (by decide) (fun c_1 => ?_) (fun c_1 => ?_)
  · exact W.widen (k := 1) (n := 6) (by decide) (by decide) (vx_ret (W.vret hx hb hr (fun t ht hW => ⟨rfl, (by unfold xX7_needPlay; rw [if_pos c_1]), ht⟩) (fun q hq => absurd hq List.not_mem_nil) dX7_needPlay_19))
  · obtain ⟨sa, hstr⟩ := hG.1.2.1 _ (List.mem_of_getElem? (i := 9) rfl)
    exact vx_throwSW (names := ["java/lang/RuntimeException", "java/lang/Exception"]) (cls := "java/lang/IllegalStateException") (sa := sa) hx hb hfl hown (by decide) (by decide) (hts _ kX7_needPlay_3) (hts _ kX7_needPlay_4) hstr (zHat3_118 hG.1 (fun w h => hts w (tX7_needPlay_118 w h))) zGood3_118_114 hG.2.1.1 hG.2.1.2 hS (hl.1.trans hml.symm) dX7_needPlay_8 dX7_needPlay_11 dX7_needPlay_12 dX7_needPlay_15 dX7_needPlay_18 (fun x h => (hto x h).elim) (Nat.le_of_ble_eq_true rfl) (Nat.le_of_ble_eq_true rfl) (Nat.le_of_ble_eq_true rfl) (Nat.le_of_ble_eq_true rfl) hlocks (fun t hW hz1 hk1 => ⟨3, ⟨(by unfold xX7_needPlay; rw [if_neg c_1]), by decide⟩, rfl, hz1, fun q h9 _ => hk1 q h9⟩) (fun z h => absurd h List.not_mem_nil) (by decide) (by decide)

/-! X7_needNoPlay -/
def xX7_needNoPlay (ni : Int32) (li : Int32) (mi : Int32) (mv : Int32) (nx : Int32) (al : Int32) (nc : Int32) (nl : Int32) : Nat := (if ni = (1 : Int32) then 3 else 0)
set_option maxRecDepth 20000 in
theorem iX7_needNoPlay_X7 : ∀ w ∈ u_ws RX7 TX7 16, w ∈ wsX7_needNoPlay := by decide +kernel
set_option maxRecDepth 20000 in
theorem kX7_needNoPlay_1 : Cond.fieldLink RX7 70 "MaskHall" "nightIs" "I" ∈ wsX7_needNoPlay := by decide +kernel
set_option maxRecDepth 20000 in
theorem tX7_needNoPlay_118 : ∀ w ∈ (vx_atS RX7 118 "java/lang/IllegalStateException" ["java/lang/RuntimeException", "java/lang/Exception"]).filter goodWord, w ∈ wsX7_needNoPlay := by decide +kernel
set_option maxRecDepth 20000 in
theorem kX7_needNoPlay_3 : Cond.classLink RX7 114 "java/lang/IllegalStateException" ∈ wsX7_needNoPlay := by decide +kernel
set_option maxRecDepth 20000 in
theorem kX7_needNoPlay_4 : Cond.initialized "java/lang/IllegalStateException" ∈ wsX7_needNoPlay := by decide +kernel
set_option maxHeartbeats 280000 in
set_option maxRecDepth 100000 in
theorem c_X7_needNoPlay (l : Launch) (hfl : l.stackTraces = false) (dC : Nat → ClassId) (dI : Nat → Nat → Nat) (cI cJ : ClassId) (mh ca la sg pl rw tw ga pa : Nat) (sz : Nat) (ni : Int32) (li : Int32) (mi : Int32) (mv : Int32) (nx : Int32) (al : Int32) (nc : Int32) (nl : Int32) : vx_Met l yX7_needNoPlay wsX7_needNoPlay ({ frames := 6, cells := 1, slots := 6, locals := 82 }) (va_Pc [.ref mh] (zI (dC, dI) [(cI, .int), (cJ, .long)] [(mh, .inr (7, [.ref ca, .ref la, .ref sg, .ref pl, .ref rw, .ref tw, .ref ga, .ref pa, .int ni, .int li, .int mi, .int mv, .int nx, .int al, .int nc, .int nl]))] sz)) (va_Sv (fun _ => xX7_needNoPlay ni li mi mv nx al nc nl = 0)) (zX (fun k => xX7_needNoPlay ni li mi mv nx al nc nl = k ∧ k ≠ 0) sz) 1 6 (fun _ => False) := by
  refine vx_ofW (cc := cX7_needNoPlay) (maxL := 1) (ret := none) (by decide) rfl ?_
  intro p e s m args below meth c s₁ B hml hto hv
  obtain ⟨rfl, hsz, hP, hK, hD0, hG⟩ := hv
  have hx := B.exec
  have hb := B.bytes
  have hr := B.returns
  have hts := atoms_spec (ws := wsX7_needNoPlay) B.pre
  have hown : s.vm.findClass RX7 = some m.cls := findClass_of_methodNamed B.named
  have hlocks := B.notSynchronized
  subst hsz
  have hD := hD0.self (sz := s.heap.size)
  generalize hAe : va_A [(mh, .inr (7, [.ref ca, .ref la, .ref sg, .ref pl, .ref rw, .ref tw, .ref ga, .ref pa, .int ni, .int li, .int mi, .int mv, .int nx, .int al, .int nc, .int nl]))] s.heap.size = A at hD hG
  have hA : ∀ q : Nat, s.heap.size ≤ q → A q := fun q h => by rw [← hAe]; exact Or.inr h
  have hS : va_S A s.heap s.heap [] := va_S.rf
  have hP : va_P (dC, dI) vwCl [(mh, .inr (7, [.ref ca, .ref la, .ref sg, .ref pl, .ref rw, .ref tw, .ref ga, .ref pa, .int ni, .int li, .int mi, .int mv, .int nx, .int al, .int nc, .int nl]))] s.heap := hP
  have hl := lv_entry ([.ref mh]) (n := 1) (Nat.le_of_ble_eq_true rfl)
  rw [lg_entry_eq]
  generalize (lg_sl ([.ref mh]) ++ List.replicate (1 - (lg_sl ([.ref mh])).length) Slot.unset).toArray = ls at hl ⊢
  have hl : lv_has ls 1 [(0, .ref mh)] := hl
  refine lv_aload_n hx hb dX7_needNoPlay_0 rfl (lv_at hl 0 rfl) ?_
  refine va_get (D := (dC, dI)) (ci := 7) (v := .int ni) (C := RX7) (T := TX7) (N := 16) hx hb hts iX7_needNoPlay_X7 hown hK hP 0 rfl rfl 8 (by decide) (hts _ kX7_needNoPlay_1) (fun _ h9 => h9) rfl dX7_needNoPlay_1 ?_
  refine lv_iconst (v := 1) hx hb dX7_needNoPlay_4 (by decide) ?_
  refine lv_icmp_ne (tgt := 19) hx hb dX7_needNoPlay_5 (by decide) (fun c_1 => ?_) (fun c_1 => ?_)
  · exact W.widen (k := 1) (n := 6) (by decide) (by decide) (vx_ret (W.vret hx hb hr (fun t ht hW => ⟨rfl, (by unfold xX7_needNoPlay; rw [if_neg c_1]), ht⟩) (fun q hq => absurd hq List.not_mem_nil) dX7_needNoPlay_19))
  · obtain ⟨sa, hstr⟩ := hG.1.2.1 _ (List.mem_of_getElem? (i := 5) rfl)
    exact vx_throwSW (names := ["java/lang/RuntimeException", "java/lang/Exception"]) (cls := "java/lang/IllegalStateException") (sa := sa) hx hb hfl hown (by decide) (by decide) (hts _ kX7_needNoPlay_3) (hts _ kX7_needNoPlay_4) hstr (zHat3_118 hG.1 (fun w h => hts w (tX7_needNoPlay_118 w h))) zGood3_118_114 hG.2.1.1 hG.2.1.2 hS (hl.1.trans hml.symm) dX7_needNoPlay_8 dX7_needNoPlay_11 dX7_needNoPlay_12 dX7_needNoPlay_15 dX7_needNoPlay_18 (fun x h => (hto x h).elim) (Nat.le_of_ble_eq_true rfl) (Nat.le_of_ble_eq_true rfl) (Nat.le_of_ble_eq_true rfl) (Nat.le_of_ble_eq_true rfl) hlocks (fun t hW hz1 hk1 => ⟨3, ⟨(by unfold xX7_needNoPlay; rw [if_pos c_1]), by decide⟩, rfl, hz1, fun q h9 _ => hk1 q h9⟩) (fun z h => absurd h List.not_mem_nil) (by decide) (by decide)

/-! X7_needOn -/
def xX7_needOn (ni : Int32) (li : Int32) (mi : Int32) (mv : Int32) (nx : Int32) (al : Int32) (nc : Int32) (nl : Int32) (on : Int32) (il : Int32) (ba : Int32) (p1 : Int32) : Nat := (if (rX7_isIn on p1) = 0 then 3 else 0)
set_option maxRecDepth 20000 in
theorem iX7_needOn_X7 : ∀ w ∈ u_ws RX7 TX7 16, w ∈ wsX7_needOn := by decide +kernel
set_option maxRecDepth 20000 in
theorem kX7_needOn_1 : Cond.fieldLink RX7 26 "MaskHall" "stage" "LMaskHall$Stage;" ∈ wsX7_needOn := by decide +kernel
set_option maxRecDepth 20000 in
theorem iX7_needOn_X5 : ∀ w ∈ u_ws RX5 TX5 4, w ∈ wsX7_needOn := by decide +kernel
set_option maxRecDepth 20000 in
theorem kX7_needOn_3 : Cond.fieldLink RX7 128 "MaskHall$Stage" "onMasks" "I" ∈ wsX7_needOn := by decide +kernel
set_option maxRecDepth 20000 in
theorem tX7_needOn_118 : ∀ w ∈ (vx_atS RX7 118 "java/lang/IllegalStateException" ["java/lang/RuntimeException", "java/lang/Exception"]).filter goodWord, w ∈ wsX7_needOn := by decide +kernel
set_option maxRecDepth 20000 in
theorem kX7_needOn_5 : Cond.classLink RX7 114 "java/lang/IllegalStateException" ∈ wsX7_needOn := by decide +kernel
set_option maxRecDepth 20000 in
theorem kX7_needOn_6 : Cond.initialized "java/lang/IllegalStateException" ∈ wsX7_needOn := by decide +kernel
set_option maxHeartbeats 320000 in
set_option maxRecDepth 100000 in
theorem c_X7_needOn (l : Launch) (hfl : l.stackTraces = false) (dC : Nat → ClassId) (dI : Nat → Nat → Nat) (cI cJ : ClassId) (mh sg ca la pl rw tw ga pa lg : Nat) (sz : Nat) (ni : Int32) (li : Int32) (mi : Int32) (mv : Int32) (nx : Int32) (al : Int32) (nc : Int32) (nl : Int32) (on : Int32) (il : Int32) (ba : Int32) (p1 : Int32) : vx_Met l yX7_needOn wsX7_needOn ({ frames := 6, cells := 1, slots := 6, locals := 82 }) (va_Pc [.ref mh, .int p1] (zI (dC, dI) [(cI, .int), (cJ, .long)] [(mh, .inr (7, [.ref ca, .ref la, .ref sg, .ref pl, .ref rw, .ref tw, .ref ga, .ref pa, .int ni, .int li, .int mi, .int mv, .int nx, .int al, .int nc, .int nl])), (sg, .inr (5, [.ref lg, .int on, .int il, .int ba]))] sz)) (va_Sv (fun _ => xX7_needOn ni li mi mv nx al nc nl on il ba p1 = 0)) (zX (fun k => xX7_needOn ni li mi mv nx al nc nl on il ba p1 = k ∧ k ≠ 0) sz) 1 6 (fun _ => False) := by
  refine vx_ofW (cc := cX7_needOn) (maxL := 2) (ret := none) (by decide) rfl ?_
  intro p e s m args below meth c s₁ B hml hto hv
  obtain ⟨rfl, hsz, hP, hK, hD0, hG⟩ := hv
  have hx := B.exec
  have hb := B.bytes
  have hr := B.returns
  have hts := atoms_spec (ws := wsX7_needOn) B.pre
  have hown : s.vm.findClass RX7 = some m.cls := findClass_of_methodNamed B.named
  have hlocks := B.notSynchronized
  subst hsz
  have hD := hD0.self (sz := s.heap.size)
  generalize hAe : va_A [(mh, .inr (7, [.ref ca, .ref la, .ref sg, .ref pl, .ref rw, .ref tw, .ref ga, .ref pa, .int ni, .int li, .int mi, .int mv, .int nx, .int al, .int nc, .int nl])), (sg, .inr (5, [.ref lg, .int on, .int il, .int ba]))] s.heap.size = A at hD hG
  have hA : ∀ q : Nat, s.heap.size ≤ q → A q := fun q h => by rw [← hAe]; exact Or.inr h
  have hS : va_S A s.heap s.heap [] := va_S.rf
  have hP : va_P (dC, dI) vwCl [(mh, .inr (7, [.ref ca, .ref la, .ref sg, .ref pl, .ref rw, .ref tw, .ref ga, .ref pa, .int ni, .int li, .int mi, .int mv, .int nx, .int al, .int nc, .int nl])), (sg, .inr (5, [.ref lg, .int on, .int il, .int ba]))] s.heap := hP
  have hl := lv_entry ([.ref mh, .int p1]) (n := 2) (Nat.le_of_ble_eq_true rfl)
  rw [lg_entry_eq]
  generalize (lg_sl ([.ref mh, .int p1]) ++ List.replicate (2 - (lg_sl ([.ref mh, .int p1])).length) Slot.unset).toArray = ls at hl ⊢
  have hl : lv_has ls 2 [(0, .ref mh), (1, .int p1)] := hl
  refine lv_aload_n hx hb dX7_needOn_0 rfl (lv_at hl 0 rfl) ?_
  refine va_get (D := (dC, dI)) (ci := 7) (v := .ref sg) (C := RX7) (T := TX7) (N := 16) hx hb hts iX7_needOn_X7 hown hK hP 0 rfl rfl 2 (by decide) (hts _ kX7_needOn_1) (fun _ h9 => h9) rfl dX7_needOn_1 ?_
  refine va_get (D := (dC, dI)) (ci := 5) (v := .int on) (C := RX5) (T := TX5) (N := 4) hx hb hts iX7_needOn_X5 hown hK hP 1 rfl rfl 1 (by decide) (hts _ kX7_needOn_3) (fun _ h9 => h9) rfl dX7_needOn_4 ?_
  refine lv_iload_n hx hb dX7_needOn_7 rfl (lv_at hl 1 rfl) ?_
  refine zcSi (va_runS (As := [.int on, .int p1]) (rest := []) ⟨hx, hb, hml, hown, hts⟩ (c_X7_isIn l dC dI cI cJ s.heap.size on p1 ) (va_cwS 2 hts gX7_needOn_X7_isIn rfl rfl rfl (by decide +kernel) ⟨Nat.le_of_ble_eq_true rfl, Nat.le_of_ble_eq_true rfl⟩) (zpS hK hP hD hS hA hG [] (by decide) rfl) rfl rfl hl.1 rfl (lv_room (Nat.le_of_ble_eq_true rfl)) dX7_needOn_8 ⟨Nat.le_of_ble_eq_true rfl, Nat.le_of_ble_eq_true rfl⟩) ?_
  refine lv_if_ne (tgt := 25) hx hb dX7_needOn_11 (by decide) (fun c_1 => ?_) (fun c_1 => ?_)
  · exact W.widen (k := 1) (n := 6) (by decide) (by decide) (vx_ret (W.vret hx hb hr (fun t ht hW => ⟨rfl, (by unfold xX7_needOn; rw [if_neg c_1]), ht⟩) (fun q hq => absurd hq List.not_mem_nil) dX7_needOn_25))
  · obtain ⟨sa, hstr⟩ := hG.1.2.1 _ (List.mem_of_getElem? (i := 11) rfl)
    exact vx_throwSW (names := ["java/lang/RuntimeException", "java/lang/Exception"]) (cls := "java/lang/IllegalStateException") (sa := sa) hx hb hfl hown (by decide) (by decide) (hts _ kX7_needOn_5) (hts _ kX7_needOn_6) hstr (zHat3_118 hG.1 (fun w h => hts w (tX7_needOn_118 w h))) zGood3_118_114 hG.2.1.1 hG.2.1.2 hS (hl.1.trans hml.symm) dX7_needOn_14 dX7_needOn_17 dX7_needOn_18 dX7_needOn_21 dX7_needOn_24 (fun x h => (hto x h).elim) (Nat.le_of_ble_eq_true rfl) (Nat.le_of_ble_eq_true rfl) (Nat.le_of_ble_eq_true rfl) (Nat.le_of_ble_eq_true rfl) hlocks (fun t hW hz1 hk1 => ⟨3, ⟨(by unfold xX7_needOn; rw [if_pos c_1]), by decide⟩, rfl, hz1, fun q h9 _ => hk1 q h9⟩) (fun z h => absurd h List.not_mem_nil) (by decide) (by decide)

/-! X7_passMinutes -/
def oX7_passMinutes_ni (ni : Int32) (li : Int32) (mi : Int32) (mv : Int32) (nx : Int32) (al : Int32) (nc : Int32) (nl : Int32) (p1 : Int32) : Int32 := (if ni = (1 : Int32) then (if (mi + p1) < li then ni else (3 : Int32)) else ni)
def oX7_passMinutes_mi (ni : Int32) (li : Int32) (mi : Int32) (mv : Int32) (nx : Int32) (al : Int32) (nc : Int32) (nl : Int32) (p1 : Int32) : Int32 := (mi + p1)
def oX7_passMinutes_nl (ni : Int32) (li : Int32) (mi : Int32) (mv : Int32) (nx : Int32) (al : Int32) (nc : Int32) (nl : Int32) (p1 : Int32) : Int32 := (if ni = (1 : Int32) then (if (mi + p1) < li then nl else (nl + (1 : Int32))) else nl)
set_option maxRecDepth 20000 in
theorem iX7_passMinutes_X7 : ∀ w ∈ u_ws RX7 TX7 16, w ∈ wsX7_passMinutes := by decide +kernel
set_option maxRecDepth 20000 in
theorem kX7_passMinutes_1 : Cond.fieldLink RX7 151 "MaskHall" "minutes" "I" ∈ wsX7_passMinutes := by decide +kernel
set_option maxRecDepth 20000 in
theorem kX7_passMinutes_2 : Cond.fieldLink RX7 70 "MaskHall" "nightIs" "I" ∈ wsX7_passMinutes := by decide +kernel
set_option maxRecDepth 20000 in
theorem kX7_passMinutes_3 : Cond.fieldLink RX7 148 "MaskHall" "light" "I" ∈ wsX7_passMinutes := by decide +kernel
set_option maxRecDepth 20000 in
theorem kX7_passMinutes_4 : Cond.fieldLink RX7 240 "MaskHall" "nightsLate" "I" ∈ wsX7_passMinutes := by decide +kernel
set_option maxHeartbeats 680000 in
set_option maxRecDepth 100000 in
theorem c_X7_passMinutes (l : Launch) (dC : Nat → ClassId) (dI : Nat → Nat → Nat) (cI cJ : ClassId) (mh ca la sg pl rw tw ga pa : Nat) (sz : Nat) (ni : Int32) (li : Int32) (mi : Int32) (mv : Int32) (nx : Int32) (al : Int32) (nc : Int32) (nl : Int32) (p1 : Int32) : Met l yX7_passMinutes wsX7_passMinutes ({ frames := 0, cells := 0, slots := 0, locals := 0 }) (va_Pc [.ref mh, .int p1] (zI (dC, dI) [(cI, .int), (cJ, .long)] [(mh, .inr (7, [.ref ca, .ref la, .ref sg, .ref pl, .ref rw, .ref tw, .ref ga, .ref pa, .int ni, .int li, .int mi, .int mv, .int nx, .int al, .int nc, .int nl]))] sz)) (va_Qv (fun (u : (Int32) × (Int32) × (Int32)) => u.1 = oX7_passMinutes_ni ni li mi mv nx al nc nl p1 ∧ u.2.1 = oX7_passMinutes_mi ni li mi mv nx al nc nl p1 ∧ u.2.2 = oX7_passMinutes_nl ni li mi mv nx al nc nl p1) (fun u => zO (dC, dI) [(cI, .int), (cJ, .long)] [(mh, .inr (7, [.ref ca, .ref la, .ref sg, .ref pl, .ref rw, .ref tw, .ref ga, .ref pa, .int u.1, .int li, .int u.2.1, .int mv, .int nx, .int al, .int nc, .int u.2.2]))] (va_A [(mh, .inr (7, [.ref ca, .ref la, .ref sg, .ref pl, .ref rw, .ref tw, .ref ga, .ref pa, .int ni, .int li, .int mi, .int mv, .int nx, .int al, .int nc, .int nl]))] sz)) (va_A [(mh, .inr (7, [.ref ca, .ref la, .ref sg, .ref pl, .ref rw, .ref tw, .ref ga, .ref pa, .int ni, .int li, .int mi, .int mv, .int nx, .int al, .int nc, .int nl]))] sz)) 0 0 (va_A [(mh, .inr (7, [.ref ca, .ref la, .ref sg, .ref pl, .ref rw, .ref tw, .ref ga, .ref pa, .int ni, .int li, .int mi, .int mv, .int nx, .int al, .int nc, .int nl]))] sz) := by
  refine Met.ofW (cc := cX7_passMinutes) (maxL := 2) (ret := none) (by decide) rfl ?_
  intro p e s m args below meth c s₁ B hml hv
  obtain ⟨rfl, hsz, hP, hK, hD0, hG⟩ := hv
  have hx := B.exec
  have hb := B.bytes
  have hr := B.returns
  have hts := atoms_spec (ws := wsX7_passMinutes) B.pre
  have hown : s.vm.findClass RX7 = some m.cls := findClass_of_methodNamed B.named
  have hlocks := B.notSynchronized
  subst hsz
  have hD := hD0.self (sz := s.heap.size)
  generalize hAe : va_A [(mh, .inr (7, [.ref ca, .ref la, .ref sg, .ref pl, .ref rw, .ref tw, .ref ga, .ref pa, .int ni, .int li, .int mi, .int mv, .int nx, .int al, .int nc, .int nl]))] s.heap.size = A at hD hG ⊢
  have hA : ∀ q : Nat, s.heap.size ≤ q → A q := fun q h => by rw [← hAe]; exact Or.inr h
  have hS : va_S A s.heap s.heap [] := va_S.rf
  have hP : va_P (dC, dI) vwCl [(mh, .inr (7, [.ref ca, .ref la, .ref sg, .ref pl, .ref rw, .ref tw, .ref ga, .ref pa, .int ni, .int li, .int mi, .int mv, .int nx, .int al, .int nc, .int nl]))] s.heap := hP
  have hl := lv_entry ([.ref mh, .int p1]) (n := 2) (Nat.le_of_ble_eq_true rfl)
  rw [lg_entry_eq]
  generalize (lg_sl ([.ref mh, .int p1]) ++ List.replicate (2 - (lg_sl ([.ref mh, .int p1])).length) Slot.unset).toArray = ls at hl ⊢
  have hl : lv_has ls 2 [(0, .ref mh), (1, .int p1)] := hl
  refine lv_aload_n hx hb dX7_passMinutes_0 rfl (lv_at hl 0 rfl) ?_
  refine lv_dup hx hb dX7_passMinutes_1 rfl ?_
  refine va_get (D := (dC, dI)) (ci := 7) (v := .int mi) (C := RX7) (T := TX7) (N := 16) hx hb hts iX7_passMinutes_X7 hown hK hP 0 rfl rfl 10 (by decide) (hts _ kX7_passMinutes_1) (fun _ h9 => h9) rfl dX7_passMinutes_2 ?_
  refine lv_iload_n hx hb dX7_passMinutes_5 rfl (lv_at hl 1 rfl) ?_
  refine lv_iadd hx hb dX7_passMinutes_6 ?_
  refine va_put (D := (dC, dI)) (ci := 7) (v := .int (mi + p1)) (ty := .int) (C := RX7) (T := TX7) (N := 16) hx hb hts iX7_passMinutes_X7 tyX7 tyX7_ok nmX7 hown hK hP hD hS 0 rfl rfl 10 (by decide) (hts _ kX7_passMinutes_1) (fun _ h9 => h9) rfl (by decide +kernel) rfl rfl (Nat.le_of_ble_eq_true rfl) dX7_passMinutes_7 (fun H locs hP hD hS => ?_)
  have hP : va_P (dC, dI) vwCl [(mh, .inr (7, [.ref ca, .ref la, .ref sg, .ref pl, .ref rw, .ref tw, .ref ga, .ref pa, .int ni, .int li, .int (mi + p1), .int mv, .int nx, .int al, .int nc, .int nl]))] H := hP
  have hD : va_D A [(mh, .inr (7, [.ref ca, .ref la, .ref sg, .ref pl, .ref rw, .ref tw, .ref ga, .ref pa, .int ni, .int li, .int (mi + p1), .int mv, .int nx, .int al, .int nc, .int nl]))] := hD
  refine lv_aload_n hx hb dX7_passMinutes_10 rfl (lv_at hl 0 rfl) ?_
  refine va_get (D := (dC, dI)) (ci := 7) (v := .int ni) (C := RX7) (T := TX7) (N := 16) hx hb hts iX7_passMinutes_X7 hown hK hP 0 rfl rfl 8 (by decide) (hts _ kX7_passMinutes_2) (fun _ h9 => h9) rfl dX7_passMinutes_11 ?_
  refine lv_iconst (v := 1) hx hb dX7_passMinutes_14 (by decide) ?_
  refine lv_icmp_ne (tgt := 44) hx hb dX7_passMinutes_15 (by decide) (fun c_1 => ?_) (fun c_1 => ?_)
  · exact W.vret hx hb hr (fun t ht hW => ⟨⟨(ni, (mi + p1), nl), rfl, ⟨(by unfold oX7_passMinutes_ni; rw [if_neg c_1]), (by unfold oX7_passMinutes_mi; rfl), (by unfold oX7_passMinutes_nl; rw [if_neg c_1])⟩, (by rw [ht]; exact hP.sub [0] rfl), va_K.moved hW.alike hK, hD.sub [0] (by decide) rfl⟩, hS.F ht⟩) hS.2.2 dX7_passMinutes_44
  · refine lv_aload_n hx hb dX7_passMinutes_18 rfl (lv_at hl 0 rfl) ?_
    refine va_get (D := (dC, dI)) (ci := 7) (v := .int (mi + p1)) (C := RX7) (T := TX7) (N := 16) hx hb hts iX7_passMinutes_X7 hown hK hP 0 rfl rfl 10 (by decide) (hts _ kX7_passMinutes_1) (fun _ h9 => h9) rfl dX7_passMinutes_19 ?_
    refine lv_aload_n hx hb dX7_passMinutes_22 rfl (lv_at hl 0 rfl) ?_
    refine va_get (D := (dC, dI)) (ci := 7) (v := .int li) (C := RX7) (T := TX7) (N := 16) hx hb hts iX7_passMinutes_X7 hown hK hP 0 rfl rfl 9 (by decide) (hts _ kX7_passMinutes_3) (fun _ h9 => h9) rfl dX7_passMinutes_23 ?_
    refine lv_icmp_lt (tgt := 44) hx hb dX7_passMinutes_26 (by decide) (fun c_2 => ?_) (fun c_2 => ?_)
    · exact W.vret hx hb hr (fun t ht hW => ⟨⟨(ni, (mi + p1), nl), rfl, ⟨(by unfold oX7_passMinutes_ni; rw [if_pos c_1, if_pos c_2]), (by unfold oX7_passMinutes_mi; rfl), (by unfold oX7_passMinutes_nl; rw [if_pos c_1, if_pos c_2])⟩, (by rw [ht]; exact hP.sub [0] rfl), va_K.moved hW.alike hK, hD.sub [0] (by decide) rfl⟩, hS.F ht⟩) hS.2.2 dX7_passMinutes_44
    · refine lv_aload_n hx hb dX7_passMinutes_29 rfl (lv_at hl 0 rfl) ?_
      refine lv_iconst (v := 3) hx hb dX7_passMinutes_30 (by decide) ?_
      refine va_put (D := (dC, dI)) (ci := 7) (v := .int (3 : Int32)) (ty := .int) (C := RX7) (T := TX7) (N := 16) hx hb hts iX7_passMinutes_X7 tyX7 tyX7_ok nmX7 hown hK hP hD hS 0 rfl rfl 8 (by decide) (hts _ kX7_passMinutes_2) (fun _ h9 => h9) rfl (by decide +kernel) rfl rfl (Nat.le_of_ble_eq_true rfl) dX7_passMinutes_31 (fun H locs hP hD hS => ?_)
      have hP : va_P (dC, dI) vwCl [(mh, .inr (7, [.ref ca, .ref la, .ref sg, .ref pl, .ref rw, .ref tw, .ref ga, .ref pa, .int (3 : Int32), .int li, .int (mi + p1), .int mv, .int nx, .int al, .int nc, .int nl]))] H := hP
      have hD : va_D A [(mh, .inr (7, [.ref ca, .ref la, .ref sg, .ref pl, .ref rw, .ref tw, .ref ga, .ref pa, .int (3 : Int32), .int li, .int (mi + p1), .int mv, .int nx, .int al, .int nc, .int nl]))] := hD
      refine lv_aload_n hx hb dX7_passMinutes_34 rfl (lv_at hl 0 rfl) ?_
      refine lv_dup hx hb dX7_passMinutes_35 rfl ?_
      refine va_get (D := (dC, dI)) (ci := 7) (v := .int nl) (C := RX7) (T := TX7) (N := 16) hx hb hts iX7_passMinutes_X7 hown hK hP 0 rfl rfl 15 (by decide) (hts _ kX7_passMinutes_4) (fun _ h9 => h9) rfl dX7_passMinutes_36 ?_
      refine lv_iconst (v := 1) hx hb dX7_passMinutes_39 (by decide) ?_
      refine lv_iadd hx hb dX7_passMinutes_40 ?_
      refine va_put (D := (dC, dI)) (ci := 7) (v := .int (nl + (1 : Int32))) (ty := .int) (C := RX7) (T := TX7) (N := 16) hx hb hts iX7_passMinutes_X7 tyX7 tyX7_ok nmX7 hown hK hP hD hS 0 rfl rfl 15 (by decide) (hts _ kX7_passMinutes_4) (fun _ h9 => h9) rfl (by decide +kernel) rfl rfl (Nat.le_of_ble_eq_true rfl) dX7_passMinutes_41 (fun H locs hP hD hS => ?_)
      have hP : va_P (dC, dI) vwCl [(mh, .inr (7, [.ref ca, .ref la, .ref sg, .ref pl, .ref rw, .ref tw, .ref ga, .ref pa, .int (3 : Int32), .int li, .int (mi + p1), .int mv, .int nx, .int al, .int nc, .int (nl + (1 : Int32))]))] H := hP
      have hD : va_D A [(mh, .inr (7, [.ref ca, .ref la, .ref sg, .ref pl, .ref rw, .ref tw, .ref ga, .ref pa, .int (3 : Int32), .int li, .int (mi + p1), .int mv, .int nx, .int al, .int nc, .int (nl + (1 : Int32))]))] := hD
      exact W.vret hx hb hr (fun t ht hW => ⟨⟨((3 : Int32), (mi + p1), (nl + (1 : Int32))), rfl, ⟨(by unfold oX7_passMinutes_ni; rw [if_pos c_1, if_neg c_2]), (by unfold oX7_passMinutes_mi; rfl), (by unfold oX7_passMinutes_nl; rw [if_pos c_1, if_neg c_2])⟩, (by rw [ht]; exact hP.sub [0] rfl), va_K.moved hW.alike hK, hD.sub [0] (by decide) rfl⟩, hS.F ht⟩) hS.2.2 dX7_passMinutes_44

/-! X7_endMove -/
def jX7_endMove_53_0 (ni : Int32) (li : Int32) (mi : Int32) (mv : Int32) (nx : Int32) (al : Int32) (nc : Int32) (nl : Int32) (ki : Nat → Int32) (fi : Nat → Int32) (se : Nat → Int32) (th : Nat → Int32) (size : Int32) (p1 : Int32) : Int32 := (if p1 = 0 then ni else (if (nx + (1 : Int32)) < size then ni else (2 : Int32)))
def jX7_endMove_53_1 (ni : Int32) (li : Int32) (mi : Int32) (mv : Int32) (nx : Int32) (al : Int32) (nc : Int32) (nl : Int32) (ki : Nat → Int32) (fi : Nat → Int32) (se : Nat → Int32) (th : Nat → Int32) (size : Int32) (p1 : Int32) : Int32 := (if p1 = 0 then nx else (nx + (1 : Int32)))
def jX7_endMove_53_2 (ni : Int32) (li : Int32) (mi : Int32) (mv : Int32) (nx : Int32) (al : Int32) (nc : Int32) (nl : Int32) (ki : Nat → Int32) (fi : Nat → Int32) (se : Nat → Int32) (th : Nat → Int32) (size : Int32) (p1 : Int32) : Int32 := (if p1 = 0 then nc else (if (nx + (1 : Int32)) < size then nc else (nc + (1 : Int32))))
def rX7_endMove (ni : Int32) (li : Int32) (mi : Int32) (mv : Int32) (nx : Int32) (al : Int32) (nc : Int32) (nl : Int32) (ki : Nat → Int32) (fi : Nat → Int32) (se : Nat → Int32) (th : Nat → Int32) (size : Int32) (p1 : Int32) : Int32 := (if p1 = 0 then (1 : Int32) else (2 : Int32))
def oX7_endMove_ni (ni : Int32) (li : Int32) (mi : Int32) (mv : Int32) (nx : Int32) (al : Int32) (nc : Int32) (nl : Int32) (ki : Nat → Int32) (fi : Nat → Int32) (se : Nat → Int32) (th : Nat → Int32) (size : Int32) (p1 : Int32) : Int32 := (oX7_passMinutes_ni (jX7_endMove_53_0 ni li mi mv nx al nc nl ki fi se th size p1) li mi (mv + (1 : Int32)) (jX7_endMove_53_1 ni li mi mv nx al nc nl ki fi se th size p1) al (jX7_endMove_53_2 ni li mi mv nx al nc nl ki fi se th size p1) nl (1 : Int32))
def oX7_endMove_mi (ni : Int32) (li : Int32) (mi : Int32) (mv : Int32) (nx : Int32) (al : Int32) (nc : Int32) (nl : Int32) (ki : Nat → Int32) (fi : Nat → Int32) (se : Nat → Int32) (th : Nat → Int32) (size : Int32) (p1 : Int32) : Int32 := (oX7_passMinutes_mi (jX7_endMove_53_0 ni li mi mv nx al nc nl ki fi se th size p1) li mi (mv + (1 : Int32)) (jX7_endMove_53_1 ni li mi mv nx al nc nl ki fi se th size p1) al (jX7_endMove_53_2 ni li mi mv nx al nc nl ki fi se th size p1) nl (1 : Int32))
def oX7_endMove_mv (ni : Int32) (li : Int32) (mi : Int32) (mv : Int32) (nx : Int32) (al : Int32) (nc : Int32) (nl : Int32) (ki : Nat → Int32) (fi : Nat → Int32) (se : Nat → Int32) (th : Nat → Int32) (size : Int32) (p1 : Int32) : Int32 := (mv + (1 : Int32))
def oX7_endMove_nx (ni : Int32) (li : Int32) (mi : Int32) (mv : Int32) (nx : Int32) (al : Int32) (nc : Int32) (nl : Int32) (ki : Nat → Int32) (fi : Nat → Int32) (se : Nat → Int32) (th : Nat → Int32) (size : Int32) (p1 : Int32) : Int32 := (jX7_endMove_53_1 ni li mi mv nx al nc nl ki fi se th size p1)
def oX7_endMove_nc (ni : Int32) (li : Int32) (mi : Int32) (mv : Int32) (nx : Int32) (al : Int32) (nc : Int32) (nl : Int32) (ki : Nat → Int32) (fi : Nat → Int32) (se : Nat → Int32) (th : Nat → Int32) (size : Int32) (p1 : Int32) : Int32 := (jX7_endMove_53_2 ni li mi mv nx al nc nl ki fi se th size p1)
def oX7_endMove_nl (ni : Int32) (li : Int32) (mi : Int32) (mv : Int32) (nx : Int32) (al : Int32) (nc : Int32) (nl : Int32) (ki : Nat → Int32) (fi : Nat → Int32) (se : Nat → Int32) (th : Nat → Int32) (size : Int32) (p1 : Int32) : Int32 := (oX7_passMinutes_nl (jX7_endMove_53_0 ni li mi mv nx al nc nl ki fi se th size p1) li mi (mv + (1 : Int32)) (jX7_endMove_53_1 ni li mi mv nx al nc nl ki fi se th size p1) al (jX7_endMove_53_2 ni li mi mv nx al nc nl ki fi se th size p1) nl (1 : Int32))
set_option maxRecDepth 20000 in
theorem iX7_endMove_X7 : ∀ w ∈ u_ws RX7 TX7 16, w ∈ wsX7_endMove := by decide +kernel
set_option maxRecDepth 20000 in
theorem kX7_endMove_1 : Cond.fieldLink RX7 154 "MaskHall" "moves" "I" ∈ wsX7_endMove := by decide +kernel
set_option maxRecDepth 20000 in
theorem kX7_endMove_2 : Cond.fieldLink RX7 74 "MaskHall" "nextStep" "I" ∈ wsX7_endMove := by decide +kernel
set_option maxRecDepth 20000 in
theorem kX7_endMove_3 : Cond.fieldLink RX7 10 "MaskHall" "canvas" "LMaskHall$Canvas;" ∈ wsX7_endMove := by decide +kernel
set_option maxRecDepth 20000 in
theorem iX7_endMove_X0 : ∀ w ∈ u_ws RX0 TX0 5, w ∈ wsX7_endMove := by decide +kernel
set_option maxRecDepth 20000 in
theorem kX7_endMove_5 : Cond.fieldLink RX7 111 "MaskHall$Canvas" "size" "I" ∈ wsX7_endMove := by decide +kernel
set_option maxRecDepth 20000 in
theorem kX7_endMove_6 : Cond.fieldLink RX7 70 "MaskHall" "nightIs" "I" ∈ wsX7_endMove := by decide +kernel
set_option maxRecDepth 20000 in
theorem kX7_endMove_7 : Cond.fieldLink RX7 237 "MaskHall" "nightsClosed" "I" ∈ wsX7_endMove := by decide +kernel
set_option maxHeartbeats 960000 in
set_option maxRecDepth 100000 in
theorem c_X7_endMove (l : Launch) (dC : Nat → ClassId) (dI : Nat → Nat → Nat) (cI cJ : ClassId) (mh ca ck cf cs ct la sg pl rw tw ga pa : Nat) (sz : Nat) (ni : Int32) (li : Int32) (mi : Int32) (mv : Int32) (nx : Int32) (al : Int32) (nc : Int32) (nl : Int32) (ki : Nat → Int32) (fi : Nat → Int32) (se : Nat → Int32) (th : Nat → Int32) (size : Int32) (p1 : Int32) : Met l yX7_endMove wsX7_endMove ({ frames := 1, cells := 0, slots := 0, locals := 21 }) (va_Pc [.ref mh, .int p1] (zI (dC, dI) [(cI, .int), (cJ, .long)] [(mh, .inr (7, [.ref ca, .ref la, .ref sg, .ref pl, .ref rw, .ref tw, .ref ga, .ref pa, .int ni, .int li, .int mi, .int mv, .int nx, .int al, .int nc, .int nl])), (ca, .inr (0, [.ref ck, .ref cf, .ref cs, .ref ct, .int size])), (ck, .inl (cI, 12, .inl ki)), (cf, .inl (cI, 12, .inl fi)), (cs, .inl (cI, 12, .inl se)), (ct, .inl (cI, 12, .inl th))] sz)) (va_Qi (fun (r : Int32) (u : (Int32) × (Int32) × (Int32) × (Int32) × (Int32) × (Int32)) => r = rX7_endMove ni li mi mv nx al nc nl ki fi se th size p1 ∧ u.1 = oX7_endMove_ni ni li mi mv nx al nc nl ki fi se th size p1 ∧ u.2.1 = oX7_endMove_mi ni li mi mv nx al nc nl ki fi se th size p1 ∧ u.2.2.1 = oX7_endMove_mv ni li mi mv nx al nc nl ki fi se th size p1 ∧ u.2.2.2.1 = oX7_endMove_nx ni li mi mv nx al nc nl ki fi se th size p1 ∧ u.2.2.2.2.1 = oX7_endMove_nc ni li mi mv nx al nc nl ki fi se th size p1 ∧ u.2.2.2.2.2 = oX7_endMove_nl ni li mi mv nx al nc nl ki fi se th size p1) (fun u => zO (dC, dI) [(cI, .int), (cJ, .long)] [(mh, .inr (7, [.ref ca, .ref la, .ref sg, .ref pl, .ref rw, .ref tw, .ref ga, .ref pa, .int u.1, .int li, .int u.2.1, .int u.2.2.1, .int u.2.2.2.1, .int al, .int u.2.2.2.2.1, .int u.2.2.2.2.2])), (ca, .inr (0, [.ref ck, .ref cf, .ref cs, .ref ct, .int size])), (ck, .inl (cI, 12, .inl ki)), (cf, .inl (cI, 12, .inl fi)), (cs, .inl (cI, 12, .inl se)), (ct, .inl (cI, 12, .inl th))] (va_A [(mh, .inr (7, [.ref ca, .ref la, .ref sg, .ref pl, .ref rw, .ref tw, .ref ga, .ref pa, .int ni, .int li, .int mi, .int mv, .int nx, .int al, .int nc, .int nl])), (ca, .inr (0, [.ref ck, .ref cf, .ref cs, .ref ct, .int size])), (ck, .inl (cI, 12, .inl ki)), (cf, .inl (cI, 12, .inl fi)), (cs, .inl (cI, 12, .inl se)), (ct, .inl (cI, 12, .inl th))] sz)) (va_A [(mh, .inr (7, [.ref ca, .ref la, .ref sg, .ref pl, .ref rw, .ref tw, .ref ga, .ref pa, .int ni, .int li, .int mi, .int mv, .int nx, .int al, .int nc, .int nl])), (ca, .inr (0, [.ref ck, .ref cf, .ref cs, .ref ct, .int size])), (ck, .inl (cI, 12, .inl ki)), (cf, .inl (cI, 12, .inl fi)), (cs, .inl (cI, 12, .inl se)), (ct, .inl (cI, 12, .inl th))] sz)) 0 0 (va_A [(mh, .inr (7, [.ref ca, .ref la, .ref sg, .ref pl, .ref rw, .ref tw, .ref ga, .ref pa, .int ni, .int li, .int mi, .int mv, .int nx, .int al, .int nc, .int nl])), (ca, .inr (0, [.ref ck, .ref cf, .ref cs, .ref ct, .int size])), (ck, .inl (cI, 12, .inl ki)), (cf, .inl (cI, 12, .inl fi)), (cs, .inl (cI, 12, .inl se)), (ct, .inl (cI, 12, .inl th))] sz) := by
  refine Met.ofW (cc := cX7_endMove) (maxL := 2) (ret := (some .int)) (by decide) rfl ?_
  intro p e s m args below meth c s₁ B hml hv
  obtain ⟨rfl, hsz, hP, hK, hD0, hG⟩ := hv
  have hx := B.exec
  have hb := B.bytes
  have hr := B.returns
  have hts := atoms_spec (ws := wsX7_endMove) B.pre
  have hown : s.vm.findClass RX7 = some m.cls := findClass_of_methodNamed B.named
  have hlocks := B.notSynchronized
  subst hsz
  have hD := hD0.self (sz := s.heap.size)
  generalize hAe : va_A [(mh, .inr (7, [.ref ca, .ref la, .ref sg, .ref pl, .ref rw, .ref tw, .ref ga, .ref pa, .int ni, .int li, .int mi, .int mv, .int nx, .int al, .int nc, .int nl])), (ca, .inr (0, [.ref ck, .ref cf, .ref cs, .ref ct, .int size])), (ck, .inl (cI, 12, .inl ki)), (cf, .inl (cI, 12, .inl fi)), (cs, .inl (cI, 12, .inl se)), (ct, .inl (cI, 12, .inl th))] s.heap.size = A at hD hG ⊢
  have hA : ∀ q : Nat, s.heap.size ≤ q → A q := fun q h => by rw [← hAe]; exact Or.inr h
  have hS : va_S A s.heap s.heap [] := va_S.rf
  have hP : va_P (dC, dI) vwCl [(mh, .inr (7, [.ref ca, .ref la, .ref sg, .ref pl, .ref rw, .ref tw, .ref ga, .ref pa, .int ni, .int li, .int mi, .int mv, .int nx, .int al, .int nc, .int nl])), (ca, .inr (0, [.ref ck, .ref cf, .ref cs, .ref ct, .int size])), (ck, .inl (cI, 12, .inl ki)), (cf, .inl (cI, 12, .inl fi)), (cs, .inl (cI, 12, .inl se)), (ct, .inl (cI, 12, .inl th))] s.heap := hP
  have hl := lv_entry ([.ref mh, .int p1]) (n := 2) (Nat.le_of_ble_eq_true rfl)
  rw [lg_entry_eq]
  generalize (lg_sl ([.ref mh, .int p1]) ++ List.replicate (2 - (lg_sl ([.ref mh, .int p1])).length) Slot.unset).toArray = ls at hl ⊢
  have hl : lv_has ls 2 [(0, .ref mh), (1, .int p1)] := hl
  refine lv_aload_n hx hb dX7_endMove_0 rfl (lv_at hl 0 rfl) ?_
  refine lv_dup hx hb dX7_endMove_1 rfl ?_
  refine va_get (D := (dC, dI)) (ci := 7) (v := .int mv) (C := RX7) (T := TX7) (N := 16) hx hb hts iX7_endMove_X7 hown hK hP 0 rfl rfl 11 (by decide) (hts _ kX7_endMove_1) (fun _ h9 => h9) rfl dX7_endMove_2 ?_
  refine lv_iconst (v := 1) hx hb dX7_endMove_5 (by decide) ?_
  refine lv_iadd hx hb dX7_endMove_6 ?_
  refine va_put (D := (dC, dI)) (ci := 7) (v := .int (mv + (1 : Int32))) (ty := .int) (C := RX7) (T := TX7) (N := 16) hx hb hts iX7_endMove_X7 tyX7 tyX7_ok nmX7 hown hK hP hD hS 0 rfl rfl 11 (by decide) (hts _ kX7_endMove_1) (fun _ h9 => h9) rfl (by decide +kernel) rfl rfl (Nat.le_of_ble_eq_true rfl) dX7_endMove_7 (fun H locs hP hD hS => ?_)
  have hP : va_P (dC, dI) vwCl [(mh, .inr (7, [.ref ca, .ref la, .ref sg, .ref pl, .ref rw, .ref tw, .ref ga, .ref pa, .int ni, .int li, .int mi, .int (mv + (1 : Int32)), .int nx, .int al, .int nc, .int nl])), (ca, .inr (0, [.ref ck, .ref cf, .ref cs, .ref ct, .int size])), (ck, .inl (cI, 12, .inl ki)), (cf, .inl (cI, 12, .inl fi)), (cs, .inl (cI, 12, .inl se)), (ct, .inl (cI, 12, .inl th))] H := hP
  have hD : va_D A [(mh, .inr (7, [.ref ca, .ref la, .ref sg, .ref pl, .ref rw, .ref tw, .ref ga, .ref pa, .int ni, .int li, .int mi, .int (mv + (1 : Int32)), .int nx, .int al, .int nc, .int nl])), (ca, .inr (0, [.ref ck, .ref cf, .ref cs, .ref ct, .int size])), (ck, .inl (cI, 12, .inl ki)), (cf, .inl (cI, 12, .inl fi)), (cs, .inl (cI, 12, .inl se)), (ct, .inl (cI, 12, .inl th))] := hD
  refine lv_iload_n hx hb dX7_endMove_10 rfl (lv_at hl 1 rfl) ?_
  refine zNm (fun R9 Q9 hR9 hQ9 => ?_)
  have J53 : ∀ (v53_0 : Int32), v53_0 = (jX7_endMove_53_0 ni li mi mv nx al nc nl ki fi se th size p1) → ∀ (v53_1 : Int32), v53_1 = (jX7_endMove_53_1 ni li mi mv nx al nc nl ki fi se th size p1) → ∀ (v53_2 : Int32), v53_2 = (jX7_endMove_53_2 ni li mi mv nx al nc nl ki fi se th size p1) → ∀ (H : Heap) (locs : List Loc) (ls : Array Slot), va_P (dC, dI) vwCl [(mh, .inr (7, [.ref ca, .ref la, .ref sg, .ref pl, .ref rw, .ref tw, .ref ga, .ref pa, .int v53_0, .int li, .int mi, .int (mv + (1 : Int32)), .int v53_1, .int al, .int v53_2, .int nl])), (ca, .inr (0, [.ref ck, .ref cf, .ref cs, .ref ct, .int size])), (ck, .inl (cI, 12, .inl ki)), (cf, .inl (cI, 12, .inl fi)), (cs, .inl (cI, 12, .inl se)), (ct, .inl (cI, 12, .inl th))] H → va_D A [(mh, .inr (7, [.ref ca, .ref la, .ref sg, .ref pl, .ref rw, .ref tw, .ref ga, .ref pa, .int v53_0, .int li, .int mi, .int (mv + (1 : Int32)), .int v53_1, .int al, .int v53_2, .int nl])), (ca, .inr (0, [.ref ck, .ref cf, .ref cs, .ref ct, .int size])), (ck, .inl (cI, 12, .inl ki)), (cf, .inl (cI, 12, .inl fi)), (cs, .inl (cI, 12, .inl se)), (ct, .inl (cI, 12, .inl th))] → va_S A s.heap H locs → lv_has ls 2 [(0, .ref mh), (1, .int p1)] → W p l e R9 s m ([.ref mh, .int p1] : List Value).toArray below meth c H locs 0 0 Q9 (F0 m 53 ls []) := by
    subst hR9; subst hQ9
    intro v53_0 hvv53_0
    rw [hvv53_0]; clear hvv53_0 v53_0
    intro v53_1 hvv53_1
    rw [hvv53_1]; clear hvv53_1 v53_1
    intro v53_2 hvv53_2
    rw [hvv53_2]; clear hvv53_2 v53_2
    intro H locs ls hP hD hS hl
    refine lv_aload_n hx hb dX7_endMove_53 rfl (lv_at hl 0 rfl) ?_
    refine lv_iconst (v := 1) hx hb dX7_endMove_54 (by decide) ?_
    refine zkV (wr := [(ca, .inr (0, [.ref ck, .ref cf, .ref cs, .ref ct, .int size])), (ck, .inl (cI, 12, .inl ki)), (cf, .inl (cI, 12, .inl fi)), (cs, .inl (cI, 12, .inl se)), (ct, .inl (cI, 12, .inl th))]) (u0 := ((oX7_passMinutes_ni (jX7_endMove_53_0 ni li mi mv nx al nc nl ki fi se th size p1) li mi (mv + (1 : Int32)) (jX7_endMove_53_1 ni li mi mv nx al nc nl ki fi se th size p1) al (jX7_endMove_53_2 ni li mi mv nx al nc nl ki fi se th size p1) nl (1 : Int32)), (oX7_passMinutes_mi (jX7_endMove_53_0 ni li mi mv nx al nc nl ki fi se th size p1) li mi (mv + (1 : Int32)) (jX7_endMove_53_1 ni li mi mv nx al nc nl ki fi se th size p1) al (jX7_endMove_53_2 ni li mi mv nx al nc nl ki fi se th size p1) nl (1 : Int32)), (oX7_passMinutes_nl (jX7_endMove_53_0 ni li mi mv nx al nc nl ki fi se th size p1) li mi (mv + (1 : Int32)) (jX7_endMove_53_1 ni li mi mv nx al nc nl ki fi se th size p1) al (jX7_endMove_53_2 ni li mi mv nx al nc nl ki fi se th size p1) nl (1 : Int32)))) (va_runV (As := [.int (1 : Int32)]) (rest := []) ⟨hx, hb, hml, hown, hts⟩ (c_X7_passMinutes l dC dI cI cJ mh ca la sg pl rw tw ga pa H.size (jX7_endMove_53_0 ni li mi mv nx al nc nl ki fi se th size p1) li mi (mv + (1 : Int32)) (jX7_endMove_53_1 ni li mi mv nx al nc nl ki fi se th size p1) al (jX7_endMove_53_2 ni li mi mv nx al nc nl ki fi se th size p1) nl (1 : Int32) ) (cwV 1 hts gX7_endMove_X7_passMinutes rfl rfl rfl (by decide +kernel) ⟨Nat.le_of_ble_eq_true rfl, Nat.le_of_ble_eq_true rfl⟩) (zpV hK hP hD hS hA hG [0] (by decide) rfl 7 0 rfl rfl) rfl rfl hl.1 rfl (lv_room (Nat.le_of_ble_eq_true rfl)) dX7_endMove_55 ⟨Nat.le_of_ble_eq_true rfl, Nat.le_of_ble_eq_true rfl⟩) (fun u h => zT3 h.1 h.2.1 h.2.2) hP hD hS hA [0] [1, 2, 3, 4, 5] rfl rfl (by decide) (by decide) (fun H locs hP hD hS => ?_)
    try dsimp only [List.cons_append, List.nil_append] at hP hD
    have hP : va_P (dC, dI) vwCl [(ca, .inr (0, [.ref ck, .ref cf, .ref cs, .ref ct, .int size])), (ck, .inl (cI, 12, .inl ki)), (cf, .inl (cI, 12, .inl fi)), (cs, .inl (cI, 12, .inl se)), (ct, .inl (cI, 12, .inl th)), (mh, .inr (7, [.ref ca, .ref la, .ref sg, .ref pl, .ref rw, .ref tw, .ref ga, .ref pa, .int (oX7_passMinutes_ni (jX7_endMove_53_0 ni li mi mv nx al nc nl ki fi se th size p1) li mi (mv + (1 : Int32)) (jX7_endMove_53_1 ni li mi mv nx al nc nl ki fi se th size p1) al (jX7_endMove_53_2 ni li mi mv nx al nc nl ki fi se th size p1) nl (1 : Int32)), .int li, .int (oX7_passMinutes_mi (jX7_endMove_53_0 ni li mi mv nx al nc nl ki fi se th size p1) li mi (mv + (1 : Int32)) (jX7_endMove_53_1 ni li mi mv nx al nc nl ki fi se th size p1) al (jX7_endMove_53_2 ni li mi mv nx al nc nl ki fi se th size p1) nl (1 : Int32)), .int (mv + (1 : Int32)), .int (jX7_endMove_53_1 ni li mi mv nx al nc nl ki fi se th size p1), .int al, .int (jX7_endMove_53_2 ni li mi mv nx al nc nl ki fi se th size p1), .int (oX7_passMinutes_nl (jX7_endMove_53_0 ni li mi mv nx al nc nl ki fi se th size p1) li mi (mv + (1 : Int32)) (jX7_endMove_53_1 ni li mi mv nx al nc nl ki fi se th size p1) al (jX7_endMove_53_2 ni li mi mv nx al nc nl ki fi se th size p1) nl (1 : Int32))]))] H := hP
    have hD : va_D A [(ca, .inr (0, [.ref ck, .ref cf, .ref cs, .ref ct, .int size])), (ck, .inl (cI, 12, .inl ki)), (cf, .inl (cI, 12, .inl fi)), (cs, .inl (cI, 12, .inl se)), (ct, .inl (cI, 12, .inl th)), (mh, .inr (7, [.ref ca, .ref la, .ref sg, .ref pl, .ref rw, .ref tw, .ref ga, .ref pa, .int (oX7_passMinutes_ni (jX7_endMove_53_0 ni li mi mv nx al nc nl ki fi se th size p1) li mi (mv + (1 : Int32)) (jX7_endMove_53_1 ni li mi mv nx al nc nl ki fi se th size p1) al (jX7_endMove_53_2 ni li mi mv nx al nc nl ki fi se th size p1) nl (1 : Int32)), .int li, .int (oX7_passMinutes_mi (jX7_endMove_53_0 ni li mi mv nx al nc nl ki fi se th size p1) li mi (mv + (1 : Int32)) (jX7_endMove_53_1 ni li mi mv nx al nc nl ki fi se th size p1) al (jX7_endMove_53_2 ni li mi mv nx al nc nl ki fi se th size p1) nl (1 : Int32)), .int (mv + (1 : Int32)), .int (jX7_endMove_53_1 ni li mi mv nx al nc nl ki fi se th size p1), .int al, .int (jX7_endMove_53_2 ni li mi mv nx al nc nl ki fi se th size p1), .int (oX7_passMinutes_nl (jX7_endMove_53_0 ni li mi mv nx al nc nl ki fi se th size p1) li mi (mv + (1 : Int32)) (jX7_endMove_53_1 ni li mi mv nx al nc nl ki fi se th size p1) al (jX7_endMove_53_2 ni li mi mv nx al nc nl ki fi se th size p1) nl (1 : Int32))]))] := hD
    refine lv_iload_n hx hb dX7_endMove_58 rfl (lv_at hl 1 rfl) ?_
    refine lv_if_eq (tgt := 66) hx hb dX7_endMove_59 (by decide) (fun c_1 => ?_) (fun c_1 => ?_)
    · refine lv_iconst (v := 1) hx hb dX7_endMove_66 (by decide) ?_
      exact W.iret (v := (1 : Int32)) hx hb hr (fun t ht hW => ⟨⟨(1 : Int32), ((oX7_passMinutes_ni (jX7_endMove_53_0 ni li mi mv nx al nc nl ki fi se th size p1) li mi (mv + (1 : Int32)) (jX7_endMove_53_1 ni li mi mv nx al nc nl ki fi se th size p1) al (jX7_endMove_53_2 ni li mi mv nx al nc nl ki fi se th size p1) nl (1 : Int32)), (oX7_passMinutes_mi (jX7_endMove_53_0 ni li mi mv nx al nc nl ki fi se th size p1) li mi (mv + (1 : Int32)) (jX7_endMove_53_1 ni li mi mv nx al nc nl ki fi se th size p1) al (jX7_endMove_53_2 ni li mi mv nx al nc nl ki fi se th size p1) nl (1 : Int32)), (mv + (1 : Int32)), (jX7_endMove_53_1 ni li mi mv nx al nc nl ki fi se th size p1), (jX7_endMove_53_2 ni li mi mv nx al nc nl ki fi se th size p1), (oX7_passMinutes_nl (jX7_endMove_53_0 ni li mi mv nx al nc nl ki fi se th size p1) li mi (mv + (1 : Int32)) (jX7_endMove_53_1 ni li mi mv nx al nc nl ki fi se th size p1) al (jX7_endMove_53_2 ni li mi mv nx al nc nl ki fi se th size p1) nl (1 : Int32))), rfl, ⟨(by unfold rX7_endMove; rw [if_pos c_1]), (by unfold oX7_endMove_ni; rfl), (by unfold oX7_endMove_mi; rfl), (by unfold oX7_endMove_mv; rfl), (by unfold oX7_endMove_nx; rfl), (by unfold oX7_endMove_nc; rfl), (by unfold oX7_endMove_nl; rfl)⟩, (by rw [ht]; exact hP.sub [5, 0, 1, 2, 3, 4] rfl), va_K.moved hW.alike hK, hD.sub [5, 0, 1, 2, 3, 4] (by decide) rfl⟩, hS.F ht⟩) hS.2.2 dX7_endMove_67
    · refine lv_iconst (v := 2) hx hb dX7_endMove_62 (by decide) ?_
      refine lv_goto (tgt := 67) hx hb dX7_endMove_63 (by decide) ?_
      exact W.iret (v := (2 : Int32)) hx hb hr (fun t ht hW => ⟨⟨(2 : Int32), ((oX7_passMinutes_ni (jX7_endMove_53_0 ni li mi mv nx al nc nl ki fi se th size p1) li mi (mv + (1 : Int32)) (jX7_endMove_53_1 ni li mi mv nx al nc nl ki fi se th size p1) al (jX7_endMove_53_2 ni li mi mv nx al nc nl ki fi se th size p1) nl (1 : Int32)), (oX7_passMinutes_mi (jX7_endMove_53_0 ni li mi mv nx al nc nl ki fi se th size p1) li mi (mv + (1 : Int32)) (jX7_endMove_53_1 ni li mi mv nx al nc nl ki fi se th size p1) al (jX7_endMove_53_2 ni li mi mv nx al nc nl ki fi se th size p1) nl (1 : Int32)), (mv + (1 : Int32)), (jX7_endMove_53_1 ni li mi mv nx al nc nl ki fi se th size p1), (jX7_endMove_53_2 ni li mi mv nx al nc nl ki fi se th size p1), (oX7_passMinutes_nl (jX7_endMove_53_0 ni li mi mv nx al nc nl ki fi se th size p1) li mi (mv + (1 : Int32)) (jX7_endMove_53_1 ni li mi mv nx al nc nl ki fi se th size p1) al (jX7_endMove_53_2 ni li mi mv nx al nc nl ki fi se th size p1) nl (1 : Int32))), rfl, ⟨(by unfold rX7_endMove; rw [if_neg c_1]), (by unfold oX7_endMove_ni; rfl), (by unfold oX7_endMove_mi; rfl), (by unfold oX7_endMove_mv; rfl), (by unfold oX7_endMove_nx; rfl), (by unfold oX7_endMove_nc; rfl), (by unfold oX7_endMove_nl; rfl)⟩, (by rw [ht]; exact hP.sub [5, 0, 1, 2, 3, 4] rfl), va_K.moved hW.alike hK, hD.sub [5, 0, 1, 2, 3, 4] (by decide) rfl⟩, hS.F ht⟩) hS.2.2 dX7_endMove_67
  subst hR9; subst hQ9
  refine lv_if_eq (tgt := 53) hx hb dX7_endMove_11 (by decide) (fun c_2 => ?_) (fun c_2 => ?_)
  · exact J53 ni (by unfold jX7_endMove_53_0; rw [if_pos c_2]) nx (by unfold jX7_endMove_53_1; rw [if_pos c_2]) nc (by unfold jX7_endMove_53_2; rw [if_pos c_2]) _ _ _ hP hD hS (lv_sub hl [0, 1] rfl)
  · refine lv_aload_n hx hb dX7_endMove_14 rfl (lv_at hl 0 rfl) ?_
    refine lv_dup hx hb dX7_endMove_15 rfl ?_
    refine va_get (D := (dC, dI)) (ci := 7) (v := .int nx) (C := RX7) (T := TX7) (N := 16) hx hb hts iX7_endMove_X7 hown hK hP 0 rfl rfl 12 (by decide) (hts _ kX7_endMove_2) (fun _ h9 => h9) rfl dX7_endMove_16 ?_
    refine lv_iconst (v := 1) hx hb dX7_endMove_19 (by decide) ?_
    refine lv_iadd hx hb dX7_endMove_20 ?_
    refine va_put (D := (dC, dI)) (ci := 7) (v := .int (nx + (1 : Int32))) (ty := .int) (C := RX7) (T := TX7) (N := 16) hx hb hts iX7_endMove_X7 tyX7 tyX7_ok nmX7 hown hK hP hD hS 0 rfl rfl 12 (by decide) (hts _ kX7_endMove_2) (fun _ h9 => h9) rfl (by decide +kernel) rfl rfl (Nat.le_of_ble_eq_true rfl) dX7_endMove_21 (fun H locs hP hD hS => ?_)
    have hP : va_P (dC, dI) vwCl [(mh, .inr (7, [.ref ca, .ref la, .ref sg, .ref pl, .ref rw, .ref tw, .ref ga, .ref pa, .int ni, .int li, .int mi, .int (mv + (1 : Int32)), .int (nx + (1 : Int32)), .int al, .int nc, .int nl])), (ca, .inr (0, [.ref ck, .ref cf, .ref cs, .ref ct, .int size])), (ck, .inl (cI, 12, .inl ki)), (cf, .inl (cI, 12, .inl fi)), (cs, .inl (cI, 12, .inl se)), (ct, .inl (cI, 12, .inl th))] H := hP
    have hD : va_D A [(mh, .inr (7, [.ref ca, .ref la, .ref sg, .ref pl, .ref rw, .ref tw, .ref ga, .ref pa, .int ni, .int li, .int mi, .int (mv + (1 : Int32)), .int (nx + (1 : Int32)), .int al, .int nc, .int nl])), (ca, .inr (0, [.ref ck, .ref cf, .ref cs, .ref ct, .int size])), (ck, .inl (cI, 12, .inl ki)), (cf, .inl (cI, 12, .inl fi)), (cs, .inl (cI, 12, .inl se)), (ct, .inl (cI, 12, .inl th))] := hD
    refine lv_aload_n hx hb dX7_endMove_24 rfl (lv_at hl 0 rfl) ?_
    refine va_get (D := (dC, dI)) (ci := 7) (v := .int (nx + (1 : Int32))) (C := RX7) (T := TX7) (N := 16) hx hb hts iX7_endMove_X7 hown hK hP 0 rfl rfl 12 (by decide) (hts _ kX7_endMove_2) (fun _ h9 => h9) rfl dX7_endMove_25 ?_
    refine lv_aload_n hx hb dX7_endMove_28 rfl (lv_at hl 0 rfl) ?_
    refine va_get (D := (dC, dI)) (ci := 7) (v := .ref ca) (C := RX7) (T := TX7) (N := 16) hx hb hts iX7_endMove_X7 hown hK hP 0 rfl rfl 0 (by decide) (hts _ kX7_endMove_3) (fun _ h9 => h9) rfl dX7_endMove_29 ?_
    refine va_get (D := (dC, dI)) (ci := 0) (v := .int size) (C := RX0) (T := TX0) (N := 5) hx hb hts iX7_endMove_X0 hown hK hP 1 rfl rfl 4 (by decide) (hts _ kX7_endMove_5) (fun _ h9 => h9) rfl dX7_endMove_32 ?_
    refine lv_icmp_lt (tgt := 53) hx hb dX7_endMove_35 (by decide) (fun c_3 => ?_) (fun c_3 => ?_)
    · exact J53 ni (by unfold jX7_endMove_53_0; rw [if_neg c_2, if_pos c_3]) (nx + (1 : Int32)) (by unfold jX7_endMove_53_1; rw [if_neg c_2]) nc (by unfold jX7_endMove_53_2; rw [if_neg c_2, if_pos c_3]) _ _ _ hP hD hS (lv_sub hl [0, 1] rfl)
    · refine lv_aload_n hx hb dX7_endMove_38 rfl (lv_at hl 0 rfl) ?_
      refine lv_iconst (v := 2) hx hb dX7_endMove_39 (by decide) ?_
      refine va_put (D := (dC, dI)) (ci := 7) (v := .int (2 : Int32)) (ty := .int) (C := RX7) (T := TX7) (N := 16) hx hb hts iX7_endMove_X7 tyX7 tyX7_ok nmX7 hown hK hP hD hS 0 rfl rfl 8 (by decide) (hts _ kX7_endMove_6) (fun _ h9 => h9) rfl (by decide +kernel) rfl rfl (Nat.le_of_ble_eq_true rfl) dX7_endMove_40 (fun H locs hP hD hS => ?_)
      have hP : va_P (dC, dI) vwCl [(mh, .inr (7, [.ref ca, .ref la, .ref sg, .ref pl, .ref rw, .ref tw, .ref ga, .ref pa, .int (2 : Int32), .int li, .int mi, .int (mv + (1 : Int32)), .int (nx + (1 : Int32)), .int al, .int nc, .int nl])), (ca, .inr (0, [.ref ck, .ref cf, .ref cs, .ref ct, .int size])), (ck, .inl (cI, 12, .inl ki)), (cf, .inl (cI, 12, .inl fi)), (cs, .inl (cI, 12, .inl se)), (ct, .inl (cI, 12, .inl th))] H := hP
      have hD : va_D A [(mh, .inr (7, [.ref ca, .ref la, .ref sg, .ref pl, .ref rw, .ref tw, .ref ga, .ref pa, .int (2 : Int32), .int li, .int mi, .int (mv + (1 : Int32)), .int (nx + (1 : Int32)), .int al, .int nc, .int nl])), (ca, .inr (0, [.ref ck, .ref cf, .ref cs, .ref ct, .int size])), (ck, .inl (cI, 12, .inl ki)), (cf, .inl (cI, 12, .inl fi)), (cs, .inl (cI, 12, .inl se)), (ct, .inl (cI, 12, .inl th))] := hD
      refine lv_aload_n hx hb dX7_endMove_43 rfl (lv_at hl 0 rfl) ?_
      refine lv_dup hx hb dX7_endMove_44 rfl ?_
      refine va_get (D := (dC, dI)) (ci := 7) (v := .int nc) (C := RX7) (T := TX7) (N := 16) hx hb hts iX7_endMove_X7 hown hK hP 0 rfl rfl 14 (by decide) (hts _ kX7_endMove_7) (fun _ h9 => h9) rfl dX7_endMove_45 ?_
      refine lv_iconst (v := 1) hx hb dX7_endMove_48 (by decide) ?_
      refine lv_iadd hx hb dX7_endMove_49 ?_
      refine va_put (D := (dC, dI)) (ci := 7) (v := .int (nc + (1 : Int32))) (ty := .int) (C := RX7) (T := TX7) (N := 16) hx hb hts iX7_endMove_X7 tyX7 tyX7_ok nmX7 hown hK hP hD hS 0 rfl rfl 14 (by decide) (hts _ kX7_endMove_7) (fun _ h9 => h9) rfl (by decide +kernel) rfl rfl (Nat.le_of_ble_eq_true rfl) dX7_endMove_50 (fun H locs hP hD hS => ?_)
      have hP : va_P (dC, dI) vwCl [(mh, .inr (7, [.ref ca, .ref la, .ref sg, .ref pl, .ref rw, .ref tw, .ref ga, .ref pa, .int (2 : Int32), .int li, .int mi, .int (mv + (1 : Int32)), .int (nx + (1 : Int32)), .int al, .int (nc + (1 : Int32)), .int nl])), (ca, .inr (0, [.ref ck, .ref cf, .ref cs, .ref ct, .int size])), (ck, .inl (cI, 12, .inl ki)), (cf, .inl (cI, 12, .inl fi)), (cs, .inl (cI, 12, .inl se)), (ct, .inl (cI, 12, .inl th))] H := hP
      have hD : va_D A [(mh, .inr (7, [.ref ca, .ref la, .ref sg, .ref pl, .ref rw, .ref tw, .ref ga, .ref pa, .int (2 : Int32), .int li, .int mi, .int (mv + (1 : Int32)), .int (nx + (1 : Int32)), .int al, .int (nc + (1 : Int32)), .int nl])), (ca, .inr (0, [.ref ck, .ref cf, .ref cs, .ref ct, .int size])), (ck, .inl (cI, 12, .inl ki)), (cf, .inl (cI, 12, .inl fi)), (cs, .inl (cI, 12, .inl se)), (ct, .inl (cI, 12, .inl th))] := hD
      exact J53 (2 : Int32) (by unfold jX7_endMove_53_0; rw [if_neg c_2, if_neg c_3]) (nx + (1 : Int32)) (by unfold jX7_endMove_53_1; rw [if_neg c_2]) (nc + (1 : Int32)) (by unfold jX7_endMove_53_2; rw [if_neg c_2, if_neg c_3]) _ _ _ hP hD hS (lv_sub hl [0, 1] rfl)

/-! X7_wouldSpoil -/
def rX7_wouldSpoil (ni : Int32) (li : Int32) (mi : Int32) (mv : Int32) (nx : Int32) (al : Int32) (nc : Int32) (nl : Int32) (ki : Nat → Int32) (fi : Nat → Int32) (se : Nat → Int32) (th : Nat → Int32) (size : Int32) (on : Int32) (il : Int32) (ba : Int32) (kT : Nat → Int32) (hT : Nat → Int32) (kn : Nat → Int32) (ho : Nat → Int32) (p1 : Int32) (p2 : Int32) : Int32 := (if (rX3_canBeClosed ki fi se th size on il ba kT hT kn ho nx) = 0 then (0 : Int32) else (if (rX3_canBeClosed ki fi se th size on il ba (oX3_canBeClosed_kT ki fi se th size on il ba kT hT kn ho nx) (oX3_canBeClosed_hT ki fi se th size on il ba kT hT kn ho nx) (oX2_learn_fk kn ho p1 p2) ho nx) = 0 then (1 : Int32) else (0 : Int32)))
def oX7_wouldSpoil_kn (ni : Int32) (li : Int32) (mi : Int32) (mv : Int32) (nx : Int32) (al : Int32) (nc : Int32) (nl : Int32) (ki : Nat → Int32) (fi : Nat → Int32) (se : Nat → Int32) (th : Nat → Int32) (size : Int32) (on : Int32) (il : Int32) (ba : Int32) (kT : Nat → Int32) (hT : Nat → Int32) (kn : Nat → Int32) (ho : Nat → Int32) (p1 : Int32) (p2 : Int32) : Nat → Int32 := (if (rX3_canBeClosed ki fi se th size on il ba kT hT kn ho nx) = 0 then kn else (oX2_forget_fk (oX2_learn_fk kn ho p1 p2) ho p1 p2))
def oX7_wouldSpoil_kT (ni : Int32) (li : Int32) (mi : Int32) (mv : Int32) (nx : Int32) (al : Int32) (nc : Int32) (nl : Int32) (ki : Nat → Int32) (fi : Nat → Int32) (se : Nat → Int32) (th : Nat → Int32) (size : Int32) (on : Int32) (il : Int32) (ba : Int32) (kT : Nat → Int32) (hT : Nat → Int32) (kn : Nat → Int32) (ho : Nat → Int32) (p1 : Int32) (p2 : Int32) : Nat → Int32 := (if (rX3_canBeClosed ki fi se th size on il ba kT hT kn ho nx) = 0 then (oX3_canBeClosed_kT ki fi se th size on il ba kT hT kn ho nx) else (oX3_canBeClosed_kT ki fi se th size on il ba (oX3_canBeClosed_kT ki fi se th size on il ba kT hT kn ho nx) (oX3_canBeClosed_hT ki fi se th size on il ba kT hT kn ho nx) (oX2_learn_fk kn ho p1 p2) ho nx))
def oX7_wouldSpoil_hT (ni : Int32) (li : Int32) (mi : Int32) (mv : Int32) (nx : Int32) (al : Int32) (nc : Int32) (nl : Int32) (ki : Nat → Int32) (fi : Nat → Int32) (se : Nat → Int32) (th : Nat → Int32) (size : Int32) (on : Int32) (il : Int32) (ba : Int32) (kT : Nat → Int32) (hT : Nat → Int32) (kn : Nat → Int32) (ho : Nat → Int32) (p1 : Int32) (p2 : Int32) : Nat → Int32 := (if (rX3_canBeClosed ki fi se th size on il ba kT hT kn ho nx) = 0 then (oX3_canBeClosed_hT ki fi se th size on il ba kT hT kn ho nx) else (oX3_canBeClosed_hT ki fi se th size on il ba (oX3_canBeClosed_kT ki fi se th size on il ba kT hT kn ho nx) (oX3_canBeClosed_hT ki fi se th size on il ba kT hT kn ho nx) (oX2_learn_fk kn ho p1 p2) ho nx))
set_option maxRecDepth 20000 in
theorem iX7_wouldSpoil_X7 : ∀ w ∈ u_ws RX7 TX7 16, w ∈ wsX7_wouldSpoil := by decide +kernel
set_option maxRecDepth 20000 in
theorem kX7_wouldSpoil_1 : Cond.fieldLink RX7 35 "MaskHall" "plot" "LMaskHall$Plot;" ∈ wsX7_wouldSpoil := by decide +kernel
set_option maxRecDepth 20000 in
theorem kX7_wouldSpoil_2 : Cond.fieldLink RX7 74 "MaskHall" "nextStep" "I" ∈ wsX7_wouldSpoil := by decide +kernel
set_option maxRecDepth 20000 in
theorem kX7_wouldSpoil_3 : Cond.fieldLink RX7 26 "MaskHall" "stage" "LMaskHall$Stage;" ∈ wsX7_wouldSpoil := by decide +kernel
set_option maxRecDepth 20000 in
theorem iX7_wouldSpoil_X5 : ∀ w ∈ u_ws RX5 TX5 4, w ∈ wsX7_wouldSpoil := by decide +kernel
set_option maxRecDepth 20000 in
theorem kX7_wouldSpoil_5 : Cond.fieldLink RX7 157 "MaskHall$Stage" "lore" "LMaskHall$Lore;" ∈ wsX7_wouldSpoil := by decide +kernel
set_option maxHeartbeats 800000 in
set_option maxRecDepth 100000 in
theorem c_X7_wouldSpoil (l : Launch) (dC : Nat → ClassId) (dI : Nat → Nat → Nat) (cI cJ : ClassId) (mh pl ca ck cf cs ct sg lt kt ht lg kg hg la rw tw ga pa : Nat) (sz : Nat) (ni : Int32) (li : Int32) (mi : Int32) (mv : Int32) (nx : Int32) (al : Int32) (nc : Int32) (nl : Int32) (ki : Nat → Int32) (fi : Nat → Int32) (se : Nat → Int32) (th : Nat → Int32) (size : Int32) (on : Int32) (il : Int32) (ba : Int32) (kT : Nat → Int32) (hT : Nat → Int32) (kn : Nat → Int32) (ho : Nat → Int32) (p1 : Int32) (p2 : Int32) (hsz0 : 0 ≤ size.toInt) (hsz : size.toInt ≤ 12) (hTH : ∀ j : Nat, j < 12 → vp_in (th j) 4) (hin2 : vp_in p2 4) : Met l yX7_wouldSpoil wsX7_wouldSpoil ({ frames := 6, cells := 0, slots := 0, locals := 137 }) (va_Pc [.ref mh, .int p1, .int p2] (zI (dC, dI) [(cI, .int), (cJ, .long)] [(mh, .inr (7, [.ref ca, .ref la, .ref sg, .ref pl, .ref rw, .ref tw, .ref ga, .ref pa, .int ni, .int li, .int mi, .int mv, .int nx, .int al, .int nc, .int nl])), (pl, .inr (3, [.ref ca, .ref sg, .ref lt])), (ca, .inr (0, [.ref ck, .ref cf, .ref cs, .ref ct, .int size])), (ck, .inl (cI, 12, .inl ki)), (cf, .inl (cI, 12, .inl fi)), (cs, .inl (cI, 12, .inl se)), (ct, .inl (cI, 12, .inl th)), (sg, .inr (5, [.ref lg, .int on, .int il, .int ba])), (lt, .inr (2, [.ref kt, .ref ht])), (kt, .inl (cI, 4, .inl kT)), (ht, .inl (cI, 4, .inl hT)), (lg, .inr (2, [.ref kg, .ref hg])), (kg, .inl (cI, 4, .inl kn)), (hg, .inl (cI, 4, .inl ho))] sz)) (va_Qi (fun (r : Int32) (u : (Nat → Int32) × (Nat → Int32) × (Nat → Int32)) => r = rX7_wouldSpoil ni li mi mv nx al nc nl ki fi se th size on il ba kT hT kn ho p1 p2 ∧ u.1 = oX7_wouldSpoil_kn ni li mi mv nx al nc nl ki fi se th size on il ba kT hT kn ho p1 p2 ∧ u.2.1 = oX7_wouldSpoil_kT ni li mi mv nx al nc nl ki fi se th size on il ba kT hT kn ho p1 p2 ∧ u.2.2 = oX7_wouldSpoil_hT ni li mi mv nx al nc nl ki fi se th size on il ba kT hT kn ho p1 p2) (fun u => zO (dC, dI) [(cI, .int), (cJ, .long)] [(mh, .inr (7, [.ref ca, .ref la, .ref sg, .ref pl, .ref rw, .ref tw, .ref ga, .ref pa, .int ni, .int li, .int mi, .int mv, .int nx, .int al, .int nc, .int nl])), (pl, .inr (3, [.ref ca, .ref sg, .ref lt])), (ca, .inr (0, [.ref ck, .ref cf, .ref cs, .ref ct, .int size])), (ck, .inl (cI, 12, .inl ki)), (cf, .inl (cI, 12, .inl fi)), (cs, .inl (cI, 12, .inl se)), (ct, .inl (cI, 12, .inl th)), (sg, .inr (5, [.ref lg, .int on, .int il, .int ba])), (lt, .inr (2, [.ref kt, .ref ht])), (kt, .inl (cI, 4, .inl u.2.1)), (ht, .inl (cI, 4, .inl u.2.2)), (lg, .inr (2, [.ref kg, .ref hg])), (kg, .inl (cI, 4, .inl u.1)), (hg, .inl (cI, 4, .inl ho))] (va_A [(mh, .inr (7, [.ref ca, .ref la, .ref sg, .ref pl, .ref rw, .ref tw, .ref ga, .ref pa, .int ni, .int li, .int mi, .int mv, .int nx, .int al, .int nc, .int nl])), (pl, .inr (3, [.ref ca, .ref sg, .ref lt])), (ca, .inr (0, [.ref ck, .ref cf, .ref cs, .ref ct, .int size])), (ck, .inl (cI, 12, .inl ki)), (cf, .inl (cI, 12, .inl fi)), (cs, .inl (cI, 12, .inl se)), (ct, .inl (cI, 12, .inl th)), (sg, .inr (5, [.ref lg, .int on, .int il, .int ba])), (lt, .inr (2, [.ref kt, .ref ht])), (kt, .inl (cI, 4, .inl kT)), (ht, .inl (cI, 4, .inl hT)), (lg, .inr (2, [.ref kg, .ref hg])), (kg, .inl (cI, 4, .inl kn)), (hg, .inl (cI, 4, .inl ho))] sz)) (va_A [(mh, .inr (7, [.ref ca, .ref la, .ref sg, .ref pl, .ref rw, .ref tw, .ref ga, .ref pa, .int ni, .int li, .int mi, .int mv, .int nx, .int al, .int nc, .int nl])), (pl, .inr (3, [.ref ca, .ref sg, .ref lt])), (ca, .inr (0, [.ref ck, .ref cf, .ref cs, .ref ct, .int size])), (ck, .inl (cI, 12, .inl ki)), (cf, .inl (cI, 12, .inl fi)), (cs, .inl (cI, 12, .inl se)), (ct, .inl (cI, 12, .inl th)), (sg, .inr (5, [.ref lg, .int on, .int il, .int ba])), (lt, .inr (2, [.ref kt, .ref ht])), (kt, .inl (cI, 4, .inl kT)), (ht, .inl (cI, 4, .inl hT)), (lg, .inr (2, [.ref kg, .ref hg])), (kg, .inl (cI, 4, .inl kn)), (hg, .inl (cI, 4, .inl ho))] sz)) 0 0 (va_A [(mh, .inr (7, [.ref ca, .ref la, .ref sg, .ref pl, .ref rw, .ref tw, .ref ga, .ref pa, .int ni, .int li, .int mi, .int mv, .int nx, .int al, .int nc, .int nl])), (pl, .inr (3, [.ref ca, .ref sg, .ref lt])), (ca, .inr (0, [.ref ck, .ref cf, .ref cs, .ref ct, .int size])), (ck, .inl (cI, 12, .inl ki)), (cf, .inl (cI, 12, .inl fi)), (cs, .inl (cI, 12, .inl se)), (ct, .inl (cI, 12, .inl th)), (sg, .inr (5, [.ref lg, .int on, .int il, .int ba])), (lt, .inr (2, [.ref kt, .ref ht])), (kt, .inl (cI, 4, .inl kT)), (ht, .inl (cI, 4, .inl hT)), (lg, .inr (2, [.ref kg, .ref hg])), (kg, .inl (cI, 4, .inl kn)), (hg, .inl (cI, 4, .inl ho))] sz) := by
  refine Met.ofW (cc := cX7_wouldSpoil) (maxL := 4) (ret := (some .boolean)) (by decide) rfl ?_
  intro p e s m args below meth c s₁ B hml hv
  obtain ⟨rfl, hsz, hP, hK, hD0, hG⟩ := hv
  have hx := B.exec
  have hb := B.bytes
  have hr := B.returns
  have hts := atoms_spec (ws := wsX7_wouldSpoil) B.pre
  have hown : s.vm.findClass RX7 = some m.cls := findClass_of_methodNamed B.named
  have hlocks := B.notSynchronized
  subst hsz
  have hD := hD0.self (sz := s.heap.size)
  generalize hAe : va_A [(mh, .inr (7, [.ref ca, .ref la, .ref sg, .ref pl, .ref rw, .ref tw, .ref ga, .ref pa, .int ni, .int li, .int mi, .int mv, .int nx, .int al, .int nc, .int nl])), (pl, .inr (3, [.ref ca, .ref sg, .ref lt])), (ca, .inr (0, [.ref ck, .ref cf, .ref cs, .ref ct, .int size])), (ck, .inl (cI, 12, .inl ki)), (cf, .inl (cI, 12, .inl fi)), (cs, .inl (cI, 12, .inl se)), (ct, .inl (cI, 12, .inl th)), (sg, .inr (5, [.ref lg, .int on, .int il, .int ba])), (lt, .inr (2, [.ref kt, .ref ht])), (kt, .inl (cI, 4, .inl kT)), (ht, .inl (cI, 4, .inl hT)), (lg, .inr (2, [.ref kg, .ref hg])), (kg, .inl (cI, 4, .inl kn)), (hg, .inl (cI, 4, .inl ho))] s.heap.size = A at hD hG ⊢
  have hA : ∀ q : Nat, s.heap.size ≤ q → A q := fun q h => by rw [← hAe]; exact Or.inr h
  have hS : va_S A s.heap s.heap [] := va_S.rf
  have hP : va_P (dC, dI) vwCl [(mh, .inr (7, [.ref ca, .ref la, .ref sg, .ref pl, .ref rw, .ref tw, .ref ga, .ref pa, .int ni, .int li, .int mi, .int mv, .int nx, .int al, .int nc, .int nl])), (pl, .inr (3, [.ref ca, .ref sg, .ref lt])), (ca, .inr (0, [.ref ck, .ref cf, .ref cs, .ref ct, .int size])), (ck, .inl (cI, 12, .inl ki)), (cf, .inl (cI, 12, .inl fi)), (cs, .inl (cI, 12, .inl se)), (ct, .inl (cI, 12, .inl th)), (sg, .inr (5, [.ref lg, .int on, .int il, .int ba])), (lt, .inr (2, [.ref kt, .ref ht])), (kt, .inl (cI, 4, .inl kT)), (ht, .inl (cI, 4, .inl hT)), (lg, .inr (2, [.ref kg, .ref hg])), (kg, .inl (cI, 4, .inl kn)), (hg, .inl (cI, 4, .inl ho))] s.heap := hP
  have hl := lv_entry ([.ref mh, .int p1, .int p2]) (n := 4) (Nat.le_of_ble_eq_true rfl)
  rw [lg_entry_eq]
  generalize (lg_sl ([.ref mh, .int p1, .int p2]) ++ List.replicate (4 - (lg_sl ([.ref mh, .int p1, .int p2])).length) Slot.unset).toArray = ls at hl ⊢
  have hl : lv_has ls 4 [(0, .ref mh), (1, .int p1), (2, .int p2)] := hl
  refine lv_aload_n hx hb dX7_wouldSpoil_0 rfl (lv_at hl 0 rfl) ?_
  refine va_get (D := (dC, dI)) (ci := 7) (v := .ref pl) (C := RX7) (T := TX7) (N := 16) hx hb hts iX7_wouldSpoil_X7 hown hK hP 0 rfl rfl 3 (by decide) (hts _ kX7_wouldSpoil_1) (fun _ h9 => h9) rfl dX7_wouldSpoil_1 ?_
  refine lv_aload_n hx hb dX7_wouldSpoil_4 rfl (lv_at hl 0 rfl) ?_
  refine va_get (D := (dC, dI)) (ci := 7) (v := .int nx) (C := RX7) (T := TX7) (N := 16) hx hb hts iX7_wouldSpoil_X7 hown hK hP 0 rfl rfl 12 (by decide) (hts _ kX7_wouldSpoil_2) (fun _ h9 => h9) rfl dX7_wouldSpoil_5 ?_
  refine zkI (wr := [(mh, .inr (7, [.ref ca, .ref la, .ref sg, .ref pl, .ref rw, .ref tw, .ref ga, .ref pa, .int ni, .int li, .int mi, .int mv, .int nx, .int al, .int nc, .int nl]))]) (r0 := (rX3_canBeClosed ki fi se th size on il ba kT hT kn ho nx)) (u0 := ((oX3_canBeClosed_kT ki fi se th size on il ba kT hT kn ho nx), (oX3_canBeClosed_hT ki fi se th size on il ba kT hT kn ho nx))) (va_runV (As := [.int nx]) (rest := []) ⟨hx, hb, hml, hown, hts⟩ (c_X3_canBeClosed l dC dI cI cJ pl ca ck cf cs ct sg lt kt ht lg kg hg s.heap.size ki fi se th size on il ba kT hT kn ho nx (by assumption) (by assumption) (by assumption)) (cwV 1 hts gX7_wouldSpoil_X3_canBeClosed rfl rfl rfl (by decide +kernel) ⟨Nat.le_of_ble_eq_true rfl, Nat.le_of_ble_eq_true rfl⟩) (zpV hK hP hD hS hA hG [1, 2, 3, 4, 5, 6, 7, 8, 9, 10, 11, 12, 13] (by decide) rfl 3 1 rfl rfl) rfl rfl hl.1 rfl (lv_room (Nat.le_of_ble_eq_true rfl)) dX7_wouldSpoil_8 ⟨Nat.le_of_ble_eq_true rfl, Nat.le_of_ble_eq_true rfl⟩) (fun r u h => ⟨h.1, zT2 h.2.1 h.2.2⟩) hP hD hS hA [1, 2, 3, 4, 5, 6, 7, 8, 9, 10, 11, 12, 13] [0] rfl rfl (by decide) (by decide) (fun H locs hP hD hS => ?_)
  try dsimp only [List.cons_append, List.nil_append] at hP hD
  have hP : va_P (dC, dI) vwCl [(mh, .inr (7, [.ref ca, .ref la, .ref sg, .ref pl, .ref rw, .ref tw, .ref ga, .ref pa, .int ni, .int li, .int mi, .int mv, .int nx, .int al, .int nc, .int nl])), (pl, .inr (3, [.ref ca, .ref sg, .ref lt])), (ca, .inr (0, [.ref ck, .ref cf, .ref cs, .ref ct, .int size])), (ck, .inl (cI, 12, .inl ki)), (cf, .inl (cI, 12, .inl fi)), (cs, .inl (cI, 12, .inl se)), (ct, .inl (cI, 12, .inl th)), (sg, .inr (5, [.ref lg, .int on, .int il, .int ba])), (lt, .inr (2, [.ref kt, .ref ht])), (kt, .inl (cI, 4, .inl (oX3_canBeClosed_kT ki fi se th size on il ba kT hT kn ho nx))), (ht, .inl (cI, 4, .inl (oX3_canBeClosed_hT ki fi se th size on il ba kT hT kn ho nx))), (lg, .inr (2, [.ref kg, .ref hg])), (kg, .inl (cI, 4, .inl kn)), (hg, .inl (cI, 4, .inl ho))] H := hP
  have hD : va_D A [(mh, .inr (7, [.ref ca, .ref la, .ref sg, .ref pl, .ref rw, .ref tw, .ref ga, .ref pa, .int ni, .int li, .int mi, .int mv, .int nx, .int al, .int nc, .int nl])), (pl, .inr (3, [.ref ca, .ref sg, .ref lt])), (ca, .inr (0, [.ref ck, .ref cf, .ref cs, .ref ct, .int size])), (ck, .inl (cI, 12, .inl ki)), (cf, .inl (cI, 12, .inl fi)), (cs, .inl (cI, 12, .inl se)), (ct, .inl (cI, 12, .inl th)), (sg, .inr (5, [.ref lg, .int on, .int il, .int ba])), (lt, .inr (2, [.ref kt, .ref ht])), (kt, .inl (cI, 4, .inl (oX3_canBeClosed_kT ki fi se th size on il ba kT hT kn ho nx))), (ht, .inl (cI, 4, .inl (oX3_canBeClosed_hT ki fi se th size on il ba kT hT kn ho nx))), (lg, .inr (2, [.ref kg, .ref hg])), (kg, .inl (cI, 4, .inl kn)), (hg, .inl (cI, 4, .inl ho))] := hD
  refine lv_if_ne (tgt := 16) hx hb dX7_wouldSpoil_11 (by decide) (fun c_1 => ?_) (fun c_1 => ?_)
  · refine lv_aload_n hx hb dX7_wouldSpoil_16 rfl (lv_at hl 0 rfl) ?_
    refine va_get (D := (dC, dI)) (ci := 7) (v := .ref sg) (C := RX7) (T := TX7) (N := 16) hx hb hts iX7_wouldSpoil_X7 hown hK hP 0 rfl rfl 2 (by decide) (hts _ kX7_wouldSpoil_3) (fun _ h9 => h9) rfl dX7_wouldSpoil_17 ?_
    refine va_get (D := (dC, dI)) (ci := 5) (v := .ref lg) (C := RX5) (T := TX5) (N := 4) hx hb hts iX7_wouldSpoil_X5 hown hK hP 7 rfl rfl 0 (by decide) (hts _ kX7_wouldSpoil_5) (fun _ h9 => h9) rfl dX7_wouldSpoil_20 ?_
    refine lv_iload_n hx hb dX7_wouldSpoil_23 rfl (lv_at hl 1 rfl) ?_
    refine lv_iload_n hx hb dX7_wouldSpoil_24 rfl (lv_at hl 2 rfl) ?_
    refine zkV (wr := [(mh, .inr (7, [.ref ca, .ref la, .ref sg, .ref pl, .ref rw, .ref tw, .ref ga, .ref pa, .int ni, .int li, .int mi, .int mv, .int nx, .int al, .int nc, .int nl])), (pl, .inr (3, [.ref ca, .ref sg, .ref lt])), (ca, .inr (0, [.ref ck, .ref cf, .ref cs, .ref ct, .int size])), (ck, .inl (cI, 12, .inl ki)), (cf, .inl (cI, 12, .inl fi)), (cs, .inl (cI, 12, .inl se)), (ct, .inl (cI, 12, .inl th)), (sg, .inr (5, [.ref lg, .int on, .int il, .int ba])), (lt, .inr (2, [.ref kt, .ref ht])), (kt, .inl (cI, 4, .inl (oX3_canBeClosed_kT ki fi se th size on il ba kT hT kn ho nx))), (ht, .inl (cI, 4, .inl (oX3_canBeClosed_hT ki fi se th size on il ba kT hT kn ho nx)))]) (u0 := ((oX2_learn_fk kn ho p1 p2))) (va_runV (As := [.int p1, .int p2]) (rest := []) ⟨hx, hb, hml, hown, hts⟩ (c_X2_learn l dC dI cI cJ lg kg hg H.size kn ho p1 p2 (by assumption)) (cwV 2 hts gX7_wouldSpoil_X2_learn rfl rfl rfl (by decide +kernel) ⟨Nat.le_of_ble_eq_true rfl, Nat.le_of_ble_eq_true rfl⟩) (zpV hK hP hD hS hA hG [11, 12, 13] (by decide) rfl 2 11 rfl rfl) rfl rfl hl.1 rfl (lv_room (Nat.le_of_ble_eq_true rfl)) dX7_wouldSpoil_25 ⟨Nat.le_of_ble_eq_true rfl, Nat.le_of_ble_eq_true rfl⟩) (fun u h => h) hP hD hS hA [11, 12, 13] [0, 1, 2, 3, 4, 5, 6, 7, 8, 9, 10] rfl rfl (by decide) (by decide) (fun H locs hP hD hS => ?_)
    try dsimp only [List.cons_append, List.nil_append] at hP hD
    have hP : va_P (dC, dI) vwCl [(mh, .inr (7, [.ref ca, .ref la, .ref sg, .ref pl, .ref rw, .ref tw, .ref ga, .ref pa, .int ni, .int li, .int mi, .int mv, .int nx, .int al, .int nc, .int nl])), (pl, .inr (3, [.ref ca, .ref sg, .ref lt])), (ca, .inr (0, [.ref ck, .ref cf, .ref cs, .ref ct, .int size])), (ck, .inl (cI, 12, .inl ki)), (cf, .inl (cI, 12, .inl fi)), (cs, .inl (cI, 12, .inl se)), (ct, .inl (cI, 12, .inl th)), (sg, .inr (5, [.ref lg, .int on, .int il, .int ba])), (lt, .inr (2, [.ref kt, .ref ht])), (kt, .inl (cI, 4, .inl (oX3_canBeClosed_kT ki fi se th size on il ba kT hT kn ho nx))), (ht, .inl (cI, 4, .inl (oX3_canBeClosed_hT ki fi se th size on il ba kT hT kn ho nx))), (lg, .inr (2, [.ref kg, .ref hg])), (kg, .inl (cI, 4, .inl (oX2_learn_fk kn ho p1 p2))), (hg, .inl (cI, 4, .inl ho))] H := hP
    have hD : va_D A [(mh, .inr (7, [.ref ca, .ref la, .ref sg, .ref pl, .ref rw, .ref tw, .ref ga, .ref pa, .int ni, .int li, .int mi, .int mv, .int nx, .int al, .int nc, .int nl])), (pl, .inr (3, [.ref ca, .ref sg, .ref lt])), (ca, .inr (0, [.ref ck, .ref cf, .ref cs, .ref ct, .int size])), (ck, .inl (cI, 12, .inl ki)), (cf, .inl (cI, 12, .inl fi)), (cs, .inl (cI, 12, .inl se)), (ct, .inl (cI, 12, .inl th)), (sg, .inr (5, [.ref lg, .int on, .int il, .int ba])), (lt, .inr (2, [.ref kt, .ref ht])), (kt, .inl (cI, 4, .inl (oX3_canBeClosed_kT ki fi se th size on il ba kT hT kn ho nx))), (ht, .inl (cI, 4, .inl (oX3_canBeClosed_hT ki fi se th size on il ba kT hT kn ho nx))), (lg, .inr (2, [.ref kg, .ref hg])), (kg, .inl (cI, 4, .inl (oX2_learn_fk kn ho p1 p2))), (hg, .inl (cI, 4, .inl ho))] := hD
    refine lv_aload_n hx hb dX7_wouldSpoil_28 rfl (lv_at hl 0 rfl) ?_
    refine va_get (D := (dC, dI)) (ci := 7) (v := .ref pl) (C := RX7) (T := TX7) (N := 16) hx hb hts iX7_wouldSpoil_X7 hown hK hP 0 rfl rfl 3 (by decide) (hts _ kX7_wouldSpoil_1) (fun _ h9 => h9) rfl dX7_wouldSpoil_29 ?_
    refine lv_aload_n hx hb dX7_wouldSpoil_32 rfl (lv_at hl 0 rfl) ?_
    refine va_get (D := (dC, dI)) (ci := 7) (v := .int nx) (C := RX7) (T := TX7) (N := 16) hx hb hts iX7_wouldSpoil_X7 hown hK hP 0 rfl rfl 12 (by decide) (hts _ kX7_wouldSpoil_2) (fun _ h9 => h9) rfl dX7_wouldSpoil_33 ?_
    refine zkI (wr := [(mh, .inr (7, [.ref ca, .ref la, .ref sg, .ref pl, .ref rw, .ref tw, .ref ga, .ref pa, .int ni, .int li, .int mi, .int mv, .int nx, .int al, .int nc, .int nl]))]) (r0 := (rX3_canBeClosed ki fi se th size on il ba (oX3_canBeClosed_kT ki fi se th size on il ba kT hT kn ho nx) (oX3_canBeClosed_hT ki fi se th size on il ba kT hT kn ho nx) (oX2_learn_fk kn ho p1 p2) ho nx)) (u0 := ((oX3_canBeClosed_kT ki fi se th size on il ba (oX3_canBeClosed_kT ki fi se th size on il ba kT hT kn ho nx) (oX3_canBeClosed_hT ki fi se th size on il ba kT hT kn ho nx) (oX2_learn_fk kn ho p1 p2) ho nx), (oX3_canBeClosed_hT ki fi se th size on il ba (oX3_canBeClosed_kT ki fi se th size on il ba kT hT kn ho nx) (oX3_canBeClosed_hT ki fi se th size on il ba kT hT kn ho nx) (oX2_learn_fk kn ho p1 p2) ho nx))) (va_runV (As := [.int nx]) (rest := []) ⟨hx, hb, hml, hown, hts⟩ (c_X3_canBeClosed l dC dI cI cJ pl ca ck cf cs ct sg lt kt ht lg kg hg H.size ki fi se th size on il ba (oX3_canBeClosed_kT ki fi se th size on il ba kT hT kn ho nx) (oX3_canBeClosed_hT ki fi se th size on il ba kT hT kn ho nx) (oX2_learn_fk kn ho p1 p2) ho nx (by assumption) (by assumption) (by assumption)) (cwV 1 hts gX7_wouldSpoil_X3_canBeClosed rfl rfl rfl (by decide +kernel) ⟨Nat.le_of_ble_eq_true rfl, Nat.le_of_ble_eq_true rfl⟩) (zpV hK hP hD hS hA hG [1, 2, 3, 4, 5, 6, 7, 8, 9, 10, 11, 12, 13] (by decide) rfl 3 1 rfl rfl) rfl rfl hl.1 rfl (lv_room (Nat.le_of_ble_eq_true rfl)) dX7_wouldSpoil_36 ⟨Nat.le_of_ble_eq_true rfl, Nat.le_of_ble_eq_true rfl⟩) (fun r u h => ⟨h.1, zT2 h.2.1 h.2.2⟩) hP hD hS hA [1, 2, 3, 4, 5, 6, 7, 8, 9, 10, 11, 12, 13] [0] rfl rfl (by decide) (by decide) (fun H locs hP hD hS => ?_)
    try dsimp only [List.cons_append, List.nil_append] at hP hD
    have hP : va_P (dC, dI) vwCl [(mh, .inr (7, [.ref ca, .ref la, .ref sg, .ref pl, .ref rw, .ref tw, .ref ga, .ref pa, .int ni, .int li, .int mi, .int mv, .int nx, .int al, .int nc, .int nl])), (pl, .inr (3, [.ref ca, .ref sg, .ref lt])), (ca, .inr (0, [.ref ck, .ref cf, .ref cs, .ref ct, .int size])), (ck, .inl (cI, 12, .inl ki)), (cf, .inl (cI, 12, .inl fi)), (cs, .inl (cI, 12, .inl se)), (ct, .inl (cI, 12, .inl th)), (sg, .inr (5, [.ref lg, .int on, .int il, .int ba])), (lt, .inr (2, [.ref kt, .ref ht])), (kt, .inl (cI, 4, .inl (oX3_canBeClosed_kT ki fi se th size on il ba (oX3_canBeClosed_kT ki fi se th size on il ba kT hT kn ho nx) (oX3_canBeClosed_hT ki fi se th size on il ba kT hT kn ho nx) (oX2_learn_fk kn ho p1 p2) ho nx))), (ht, .inl (cI, 4, .inl (oX3_canBeClosed_hT ki fi se th size on il ba (oX3_canBeClosed_kT ki fi se th size on il ba kT hT kn ho nx) (oX3_canBeClosed_hT ki fi se th size on il ba kT hT kn ho nx) (oX2_learn_fk kn ho p1 p2) ho nx))), (lg, .inr (2, [.ref kg, .ref hg])), (kg, .inl (cI, 4, .inl (oX2_learn_fk kn ho p1 p2))), (hg, .inl (cI, 4, .inl ho))] H := hP
    have hD : va_D A [(mh, .inr (7, [.ref ca, .ref la, .ref sg, .ref pl, .ref rw, .ref tw, .ref ga, .ref pa, .int ni, .int li, .int mi, .int mv, .int nx, .int al, .int nc, .int nl])), (pl, .inr (3, [.ref ca, .ref sg, .ref lt])), (ca, .inr (0, [.ref ck, .ref cf, .ref cs, .ref ct, .int size])), (ck, .inl (cI, 12, .inl ki)), (cf, .inl (cI, 12, .inl fi)), (cs, .inl (cI, 12, .inl se)), (ct, .inl (cI, 12, .inl th)), (sg, .inr (5, [.ref lg, .int on, .int il, .int ba])), (lt, .inr (2, [.ref kt, .ref ht])), (kt, .inl (cI, 4, .inl (oX3_canBeClosed_kT ki fi se th size on il ba (oX3_canBeClosed_kT ki fi se th size on il ba kT hT kn ho nx) (oX3_canBeClosed_hT ki fi se th size on il ba kT hT kn ho nx) (oX2_learn_fk kn ho p1 p2) ho nx))), (ht, .inl (cI, 4, .inl (oX3_canBeClosed_hT ki fi se th size on il ba (oX3_canBeClosed_kT ki fi se th size on il ba kT hT kn ho nx) (oX3_canBeClosed_hT ki fi se th size on il ba kT hT kn ho nx) (oX2_learn_fk kn ho p1 p2) ho nx))), (lg, .inr (2, [.ref kg, .ref hg])), (kg, .inl (cI, 4, .inl (oX2_learn_fk kn ho p1 p2))), (hg, .inl (cI, 4, .inl ho))] := hD
    refine lv_istore_n (lv' := [(3, .int (rX3_canBeClosed ki fi se th size on il ba (oX3_canBeClosed_kT ki fi se th size on il ba kT hT kn ho nx) (oX3_canBeClosed_hT ki fi se th size on il ba kT hT kn ho nx) (oX2_learn_fk kn ho p1 p2) ho nx)), (0, .ref mh), (1, .int p1), (2, .int p2)]) hx hb dX7_wouldSpoil_39 rfl hl (by decide) rfl (fun ls hl => ?_)
    refine lv_aload_n hx hb dX7_wouldSpoil_40 rfl (lv_at hl 1 rfl) ?_
    refine va_get (D := (dC, dI)) (ci := 7) (v := .ref sg) (C := RX7) (T := TX7) (N := 16) hx hb hts iX7_wouldSpoil_X7 hown hK hP 0 rfl rfl 2 (by decide) (hts _ kX7_wouldSpoil_3) (fun _ h9 => h9) rfl dX7_wouldSpoil_41 ?_
    refine va_get (D := (dC, dI)) (ci := 5) (v := .ref lg) (C := RX5) (T := TX5) (N := 4) hx hb hts iX7_wouldSpoil_X5 hown hK hP 7 rfl rfl 0 (by decide) (hts _ kX7_wouldSpoil_5) (fun _ h9 => h9) rfl dX7_wouldSpoil_44 ?_
    refine lv_iload_n hx hb dX7_wouldSpoil_47 rfl (lv_at hl 2 rfl) ?_
    refine lv_iload_n hx hb dX7_wouldSpoil_48 rfl (lv_at hl 3 rfl) ?_
    refine zkV (wr := [(mh, .inr (7, [.ref ca, .ref la, .ref sg, .ref pl, .ref rw, .ref tw, .ref ga, .ref pa, .int ni, .int li, .int mi, .int mv, .int nx, .int al, .int nc, .int nl])), (pl, .inr (3, [.ref ca, .ref sg, .ref lt])), (ca, .inr (0, [.ref ck, .ref cf, .ref cs, .ref ct, .int size])), (ck, .inl (cI, 12, .inl ki)), (cf, .inl (cI, 12, .inl fi)), (cs, .inl (cI, 12, .inl se)), (ct, .inl (cI, 12, .inl th)), (sg, .inr (5, [.ref lg, .int on, .int il, .int ba])), (lt, .inr (2, [.ref kt, .ref ht])), (kt, .inl (cI, 4, .inl (oX3_canBeClosed_kT ki fi se th size on il ba (oX3_canBeClosed_kT ki fi se th size on il ba kT hT kn ho nx) (oX3_canBeClosed_hT ki fi se th size on il ba kT hT kn ho nx) (oX2_learn_fk kn ho p1 p2) ho nx))), (ht, .inl (cI, 4, .inl (oX3_canBeClosed_hT ki fi se th size on il ba (oX3_canBeClosed_kT ki fi se th size on il ba kT hT kn ho nx) (oX3_canBeClosed_hT ki fi se th size on il ba kT hT kn ho nx) (oX2_learn_fk kn ho p1 p2) ho nx)))]) (u0 := ((oX2_forget_fk (oX2_learn_fk kn ho p1 p2) ho p1 p2))) (va_runV (As := [.int p1, .int p2]) (rest := []) ⟨hx, hb, hml, hown, hts⟩ (c_X2_forget l dC dI cI cJ lg kg hg H.size (oX2_learn_fk kn ho p1 p2) ho p1 p2 (by assumption)) (cwV 2 hts gX7_wouldSpoil_X2_forget rfl rfl rfl (by decide +kernel) ⟨Nat.le_of_ble_eq_true rfl, Nat.le_of_ble_eq_true rfl⟩) (zpV hK hP hD hS hA hG [11, 12, 13] (by decide) rfl 2 11 rfl rfl) rfl rfl hl.1 rfl (lv_room (Nat.le_of_ble_eq_true rfl)) dX7_wouldSpoil_49 ⟨Nat.le_of_ble_eq_true rfl, Nat.le_of_ble_eq_true rfl⟩) (fun u h => h) hP hD hS hA [11, 12, 13] [0, 1, 2, 3, 4, 5, 6, 7, 8, 9, 10] rfl rfl (by decide) (by decide) (fun H locs hP hD hS => ?_)
    try dsimp only [List.cons_append, List.nil_append] at hP hD
    have hP : va_P (dC, dI) vwCl [(mh, .inr (7, [.ref ca, .ref la, .ref sg, .ref pl, .ref rw, .ref tw, .ref ga, .ref pa, .int ni, .int li, .int mi, .int mv, .int nx, .int al, .int nc, .int nl])), (pl, .inr (3, [.ref ca, .ref sg, .ref lt])), (ca, .inr (0, [.ref ck, .ref cf, .ref cs, .ref ct, .int size])), (ck, .inl (cI, 12, .inl ki)), (cf, .inl (cI, 12, .inl fi)), (cs, .inl (cI, 12, .inl se)), (ct, .inl (cI, 12, .inl th)), (sg, .inr (5, [.ref lg, .int on, .int il, .int ba])), (lt, .inr (2, [.ref kt, .ref ht])), (kt, .inl (cI, 4, .inl (oX3_canBeClosed_kT ki fi se th size on il ba (oX3_canBeClosed_kT ki fi se th size on il ba kT hT kn ho nx) (oX3_canBeClosed_hT ki fi se th size on il ba kT hT kn ho nx) (oX2_learn_fk kn ho p1 p2) ho nx))), (ht, .inl (cI, 4, .inl (oX3_canBeClosed_hT ki fi se th size on il ba (oX3_canBeClosed_kT ki fi se th size on il ba kT hT kn ho nx) (oX3_canBeClosed_hT ki fi se th size on il ba kT hT kn ho nx) (oX2_learn_fk kn ho p1 p2) ho nx))), (lg, .inr (2, [.ref kg, .ref hg])), (kg, .inl (cI, 4, .inl (oX2_forget_fk (oX2_learn_fk kn ho p1 p2) ho p1 p2))), (hg, .inl (cI, 4, .inl ho))] H := hP
    have hD : va_D A [(mh, .inr (7, [.ref ca, .ref la, .ref sg, .ref pl, .ref rw, .ref tw, .ref ga, .ref pa, .int ni, .int li, .int mi, .int mv, .int nx, .int al, .int nc, .int nl])), (pl, .inr (3, [.ref ca, .ref sg, .ref lt])), (ca, .inr (0, [.ref ck, .ref cf, .ref cs, .ref ct, .int size])), (ck, .inl (cI, 12, .inl ki)), (cf, .inl (cI, 12, .inl fi)), (cs, .inl (cI, 12, .inl se)), (ct, .inl (cI, 12, .inl th)), (sg, .inr (5, [.ref lg, .int on, .int il, .int ba])), (lt, .inr (2, [.ref kt, .ref ht])), (kt, .inl (cI, 4, .inl (oX3_canBeClosed_kT ki fi se th size on il ba (oX3_canBeClosed_kT ki fi se th size on il ba kT hT kn ho nx) (oX3_canBeClosed_hT ki fi se th size on il ba kT hT kn ho nx) (oX2_learn_fk kn ho p1 p2) ho nx))), (ht, .inl (cI, 4, .inl (oX3_canBeClosed_hT ki fi se th size on il ba (oX3_canBeClosed_kT ki fi se th size on il ba kT hT kn ho nx) (oX3_canBeClosed_hT ki fi se th size on il ba kT hT kn ho nx) (oX2_learn_fk kn ho p1 p2) ho nx))), (lg, .inr (2, [.ref kg, .ref hg])), (kg, .inl (cI, 4, .inl (oX2_forget_fk (oX2_learn_fk kn ho p1 p2) ho p1 p2))), (hg, .inl (cI, 4, .inl ho))] := hD
    refine lv_iload_n hx hb dX7_wouldSpoil_52 rfl (lv_at hl 0 rfl) ?_
    refine lv_if_ne (tgt := 60) hx hb dX7_wouldSpoil_53 (by decide) (fun c_2 => ?_) (fun c_2 => ?_)
    · refine lv_iconst (v := 0) hx hb dX7_wouldSpoil_60 (by decide) ?_
      exact W.zret (v := (0 : Int32)) hx hb hr (zNar (Or.inl rfl)) (fun t ht hW => ⟨⟨(0 : Int32), ((oX2_forget_fk (oX2_learn_fk kn ho p1 p2) ho p1 p2), (oX3_canBeClosed_kT ki fi se th size on il ba (oX3_canBeClosed_kT ki fi se th size on il ba kT hT kn ho nx) (oX3_canBeClosed_hT ki fi se th size on il ba kT hT kn ho nx) (oX2_learn_fk kn ho p1 p2) ho nx), (oX3_canBeClosed_hT ki fi se th size on il ba (oX3_canBeClosed_kT ki fi se th size on il ba kT hT kn ho nx) (oX3_canBeClosed_hT ki fi se th size on il ba kT hT kn ho nx) (oX2_learn_fk kn ho p1 p2) ho nx)), rfl, ⟨(by unfold rX7_wouldSpoil; rw [if_neg c_1, if_neg c_2]), (by unfold oX7_wouldSpoil_kn; rw [if_neg c_1]), (by unfold oX7_wouldSpoil_kT; rw [if_neg c_1]), (by unfold oX7_wouldSpoil_hT; rw [if_neg c_1])⟩, (by rw [ht]; exact hP.sub [0, 1, 2, 3, 4, 5, 6, 7, 8, 9, 10, 11, 12, 13] rfl), va_K.moved hW.alike hK, hD.sub [0, 1, 2, 3, 4, 5, 6, 7, 8, 9, 10, 11, 12, 13] (by decide) rfl⟩, hS.F ht⟩) hS.2.2 dX7_wouldSpoil_61
    · refine lv_iconst (v := 1) hx hb dX7_wouldSpoil_56 (by decide) ?_
      refine lv_goto (tgt := 61) hx hb dX7_wouldSpoil_57 (by decide) ?_
      exact W.zret (v := (1 : Int32)) hx hb hr (zNar (Or.inr rfl)) (fun t ht hW => ⟨⟨(1 : Int32), ((oX2_forget_fk (oX2_learn_fk kn ho p1 p2) ho p1 p2), (oX3_canBeClosed_kT ki fi se th size on il ba (oX3_canBeClosed_kT ki fi se th size on il ba kT hT kn ho nx) (oX3_canBeClosed_hT ki fi se th size on il ba kT hT kn ho nx) (oX2_learn_fk kn ho p1 p2) ho nx), (oX3_canBeClosed_hT ki fi se th size on il ba (oX3_canBeClosed_kT ki fi se th size on il ba kT hT kn ho nx) (oX3_canBeClosed_hT ki fi se th size on il ba kT hT kn ho nx) (oX2_learn_fk kn ho p1 p2) ho nx)), rfl, ⟨(by unfold rX7_wouldSpoil; rw [if_neg c_1, if_pos c_2]), (by unfold oX7_wouldSpoil_kn; rw [if_neg c_1]), (by unfold oX7_wouldSpoil_kT; rw [if_neg c_1]), (by unfold oX7_wouldSpoil_hT; rw [if_neg c_1])⟩, (by rw [ht]; exact hP.sub [0, 1, 2, 3, 4, 5, 6, 7, 8, 9, 10, 11, 12, 13] rfl), va_K.moved hW.alike hK, hD.sub [0, 1, 2, 3, 4, 5, 6, 7, 8, 9, 10, 11, 12, 13] (by decide) rfl⟩, hS.F ht⟩) hS.2.2 dX7_wouldSpoil_61
  · refine lv_iconst (v := 0) hx hb dX7_wouldSpoil_14 (by decide) ?_
    exact W.zret (v := (0 : Int32)) hx hb hr (zNar (Or.inl rfl)) (fun t ht hW => ⟨⟨(0 : Int32), (kn, (oX3_canBeClosed_kT ki fi se th size on il ba kT hT kn ho nx), (oX3_canBeClosed_hT ki fi se th size on il ba kT hT kn ho nx)), rfl, ⟨(by unfold rX7_wouldSpoil; rw [if_pos c_1]), (by unfold oX7_wouldSpoil_kn; rw [if_pos c_1]), (by unfold oX7_wouldSpoil_kT; rw [if_pos c_1]), (by unfold oX7_wouldSpoil_hT; rw [if_pos c_1])⟩, (by rw [ht]; exact hP.sub [0, 1, 2, 3, 4, 5, 6, 7, 8, 9, 10, 11, 12, 13] rfl), va_K.moved hW.alike hK, hD.sub [0, 1, 2, 3, 4, 5, 6, 7, 8, 9, 10, 11, 12, 13] (by decide) rfl⟩, hS.F ht⟩) hS.2.2 dX7_wouldSpoil_15
theorem brX7_wouldSpoil (ni : Int32) (li : Int32) (mi : Int32) (mv : Int32) (nx : Int32) (al : Int32) (nc : Int32) (nl : Int32) (ki : Nat → Int32) (fi : Nat → Int32) (se : Nat → Int32) (th : Nat → Int32) (size : Int32) (on : Int32) (il : Int32) (ba : Int32) (kT : Nat → Int32) (hT : Nat → Int32) (kn : Nat → Int32) (ho : Nat → Int32) (p1 : Int32) (p2 : Int32) : rX7_wouldSpoil ni li mi mv nx al nc nl ki fi se th size on il ba kT hT kn ho p1 p2 = 0 ∨ rX7_wouldSpoil ni li mi mv nx al nc nl ki fi se th size on il ba kT hT kn ho p1 p2 = 1 := by
  unfold rX7_wouldSpoil
  repeat' split
  all_goals first | exact Or.inl rfl | exact Or.inr rfl | exact brX3_canBeClosed _ _ _ _ _ _ _ _ _ _ _ _ _

/-! X7_loreToAsk -/
set_option maxRecDepth 20000 in
theorem iX7_loreToAsk_0_X7 : ∀ w ∈ u_ws RX7 TX7 16, w ∈ wsX7_loreToAsk := by decide +kernel
set_option maxRecDepth 20000 in
theorem kX7_loreToAsk_0_1 : Cond.fieldLink RX7 70 "MaskHall" "nightIs" "I" ∈ wsX7_loreToAsk := by decide +kernel
set_option maxRecDepth 20000 in
theorem kX7_loreToAsk_0_2 : Cond.fieldLink RX7 19 "MaskHall" "atBeginning" "LMaskHall$Lore;" ∈ wsX7_loreToAsk := by decide +kernel
set_option maxHeartbeats 320000 in
set_option maxRecDepth 100000 in
theorem c_X7_loreToAsk_0 (l : Launch) (dC : Nat → ClassId) (dI : Nat → Nat → Nat) (cI cJ : ClassId) (mh sg ca la pl rw tw ga pa lg : Nat) (sz : Nat) (ni : Int32) (li : Int32) (mi : Int32) (mv : Int32) (nx : Int32) (al : Int32) (nc : Int32) (nl : Int32) (on : Int32) (il : Int32) (ba : Int32) (hni : ni = 0) : Met l yX7_loreToAsk wsX7_loreToAsk ({ frames := 0, cells := 0, slots := 0, locals := 0 }) (va_Pc [.ref mh] (zI (dC, dI) [(cI, .int), (cJ, .long)] [(mh, .inr (7, [.ref ca, .ref la, .ref sg, .ref pl, .ref rw, .ref tw, .ref ga, .ref pa, .int ni, .int li, .int mi, .int mv, .int nx, .int al, .int nc, .int nl])), (sg, .inr (5, [.ref lg, .int on, .int il, .int ba]))] sz)) (va_Sr (fun _ => True) (fun _ => .ref la)) 0 0 (fun _ => False) := by
  refine Met.ofW (cc := cX7_loreToAsk) (maxL := 1) (ret := (some (.object "MaskHall$Lore"))) (by decide) rfl ?_
  intro p e s m args below meth c s₁ B hml hv
  obtain ⟨rfl, hsz, hP, hK, hD0, hG⟩ := hv
  have hx := B.exec
  have hb := B.bytes
  have hr := B.returns
  have hts := atoms_spec (ws := wsX7_loreToAsk) B.pre
  have hown : s.vm.findClass RX7 = some m.cls := findClass_of_methodNamed B.named
  have hlocks := B.notSynchronized
  subst hsz
  have hD := hD0.self (sz := s.heap.size)
  generalize hAe : va_A [(mh, .inr (7, [.ref ca, .ref la, .ref sg, .ref pl, .ref rw, .ref tw, .ref ga, .ref pa, .int ni, .int li, .int mi, .int mv, .int nx, .int al, .int nc, .int nl])), (sg, .inr (5, [.ref lg, .int on, .int il, .int ba]))] s.heap.size = A at hD hG
  have hA : ∀ q : Nat, s.heap.size ≤ q → A q := fun q h => by rw [← hAe]; exact Or.inr h
  have hS : va_S A s.heap s.heap [] := va_S.rf
  have hP : va_P (dC, dI) vwCl [(mh, .inr (7, [.ref ca, .ref la, .ref sg, .ref pl, .ref rw, .ref tw, .ref ga, .ref pa, .int ni, .int li, .int mi, .int mv, .int nx, .int al, .int nc, .int nl])), (sg, .inr (5, [.ref lg, .int on, .int il, .int ba]))] s.heap := hP
  have hl := lv_entry ([.ref mh]) (n := 1) (Nat.le_of_ble_eq_true rfl)
  rw [lg_entry_eq]
  generalize (lg_sl ([.ref mh]) ++ List.replicate (1 - (lg_sl ([.ref mh])).length) Slot.unset).toArray = ls at hl ⊢
  have hl : lv_has ls 1 [(0, .ref mh)] := hl
  refine lv_aload_n hx hb dX7_loreToAsk_0 rfl (lv_at hl 0 rfl) ?_
  refine va_get (D := (dC, dI)) (ci := 7) (v := .int ni) (C := RX7) (T := TX7) (N := 16) hx hb hts iX7_loreToAsk_0_X7 hown hK hP 0 rfl rfl 8 (by decide) (hts _ kX7_loreToAsk_0_1) (fun _ h9 => h9) rfl dX7_loreToAsk_1 ?_
  refine lv_if_ne (tgt := 14) hx hb dX7_loreToAsk_4 (by decide) (fun c_1 => ?_) (fun c_1 => ?_)
  · exact absurd hni c_1
  · refine lv_aload_n hx hb dX7_loreToAsk_7 rfl (lv_at hl 0 rfl) ?_
    refine va_get (D := (dC, dI)) (ci := 7) (v := .ref la) (C := RX7) (T := TX7) (N := 16) hx hb hts iX7_loreToAsk_0_X7 hown hK hP 0 rfl rfl 1 (by decide) (hts _ kX7_loreToAsk_0_2) (fun _ h9 => h9) rfl dX7_loreToAsk_8 ?_
    refine lv_goto (tgt := 21) hx hb dX7_loreToAsk_11 (by decide) ?_
    exact W.aret (v := .ref la) hx hb hr (Or.inl ⟨_, rfl⟩) (Or.inr ⟨_, rfl⟩) (fun t ht hW => ⟨0, rfl, trivial, ht⟩) (fun q hq => absurd hq List.not_mem_nil) dX7_loreToAsk_21

/-! X7_loreToAsk -/
set_option maxRecDepth 20000 in
theorem iX7_loreToAsk_1_X7 : ∀ w ∈ u_ws RX7 TX7 16, w ∈ wsX7_loreToAsk := by decide +kernel
set_option maxRecDepth 20000 in
theorem kX7_loreToAsk_1_1 : Cond.fieldLink RX7 70 "MaskHall" "nightIs" "I" ∈ wsX7_loreToAsk := by decide +kernel
set_option maxRecDepth 20000 in
theorem kX7_loreToAsk_1_2 : Cond.fieldLink RX7 26 "MaskHall" "stage" "LMaskHall$Stage;" ∈ wsX7_loreToAsk := by decide +kernel
set_option maxRecDepth 20000 in
theorem iX7_loreToAsk_1_X5 : ∀ w ∈ u_ws RX5 TX5 4, w ∈ wsX7_loreToAsk := by decide +kernel
set_option maxRecDepth 20000 in
theorem kX7_loreToAsk_1_4 : Cond.fieldLink RX7 157 "MaskHall$Stage" "lore" "LMaskHall$Lore;" ∈ wsX7_loreToAsk := by decide +kernel
set_option maxHeartbeats 320000 in
set_option maxRecDepth 100000 in
theorem c_X7_loreToAsk_1 (l : Launch) (dC : Nat → ClassId) (dI : Nat → Nat → Nat) (cI cJ : ClassId) (mh sg ca la pl rw tw ga pa lg : Nat) (sz : Nat) (ni : Int32) (li : Int32) (mi : Int32) (mv : Int32) (nx : Int32) (al : Int32) (nc : Int32) (nl : Int32) (on : Int32) (il : Int32) (ba : Int32) (hni : ¬ ni = 0) : Met l yX7_loreToAsk wsX7_loreToAsk ({ frames := 0, cells := 0, slots := 0, locals := 0 }) (va_Pc [.ref mh] (zI (dC, dI) [(cI, .int), (cJ, .long)] [(mh, .inr (7, [.ref ca, .ref la, .ref sg, .ref pl, .ref rw, .ref tw, .ref ga, .ref pa, .int ni, .int li, .int mi, .int mv, .int nx, .int al, .int nc, .int nl])), (sg, .inr (5, [.ref lg, .int on, .int il, .int ba]))] sz)) (va_Sr (fun _ => True) (fun _ => .ref lg)) 0 0 (fun _ => False) := by
  refine Met.ofW (cc := cX7_loreToAsk) (maxL := 1) (ret := (some (.object "MaskHall$Lore"))) (by decide) rfl ?_
  intro p e s m args below meth c s₁ B hml hv
  obtain ⟨rfl, hsz, hP, hK, hD0, hG⟩ := hv
  have hx := B.exec
  have hb := B.bytes
  have hr := B.returns
  have hts := atoms_spec (ws := wsX7_loreToAsk) B.pre
  have hown : s.vm.findClass RX7 = some m.cls := findClass_of_methodNamed B.named
  have hlocks := B.notSynchronized
  subst hsz
  have hD := hD0.self (sz := s.heap.size)
  generalize hAe : va_A [(mh, .inr (7, [.ref ca, .ref la, .ref sg, .ref pl, .ref rw, .ref tw, .ref ga, .ref pa, .int ni, .int li, .int mi, .int mv, .int nx, .int al, .int nc, .int nl])), (sg, .inr (5, [.ref lg, .int on, .int il, .int ba]))] s.heap.size = A at hD hG
  have hA : ∀ q : Nat, s.heap.size ≤ q → A q := fun q h => by rw [← hAe]; exact Or.inr h
  have hS : va_S A s.heap s.heap [] := va_S.rf
  have hP : va_P (dC, dI) vwCl [(mh, .inr (7, [.ref ca, .ref la, .ref sg, .ref pl, .ref rw, .ref tw, .ref ga, .ref pa, .int ni, .int li, .int mi, .int mv, .int nx, .int al, .int nc, .int nl])), (sg, .inr (5, [.ref lg, .int on, .int il, .int ba]))] s.heap := hP
  have hl := lv_entry ([.ref mh]) (n := 1) (Nat.le_of_ble_eq_true rfl)
  rw [lg_entry_eq]
  generalize (lg_sl ([.ref mh]) ++ List.replicate (1 - (lg_sl ([.ref mh])).length) Slot.unset).toArray = ls at hl ⊢
  have hl : lv_has ls 1 [(0, .ref mh)] := hl
  refine lv_aload_n hx hb dX7_loreToAsk_0 rfl (lv_at hl 0 rfl) ?_
  refine va_get (D := (dC, dI)) (ci := 7) (v := .int ni) (C := RX7) (T := TX7) (N := 16) hx hb hts iX7_loreToAsk_1_X7 hown hK hP 0 rfl rfl 8 (by decide) (hts _ kX7_loreToAsk_1_1) (fun _ h9 => h9) rfl dX7_loreToAsk_1 ?_
  refine lv_if_ne (tgt := 14) hx hb dX7_loreToAsk_4 (by decide) (fun c_1 => ?_) (fun c_1 => ?_)
  · refine lv_aload_n hx hb dX7_loreToAsk_14 rfl (lv_at hl 0 rfl) ?_
    refine va_get (D := (dC, dI)) (ci := 7) (v := .ref sg) (C := RX7) (T := TX7) (N := 16) hx hb hts iX7_loreToAsk_1_X7 hown hK hP 0 rfl rfl 2 (by decide) (hts _ kX7_loreToAsk_1_2) (fun _ h9 => h9) rfl dX7_loreToAsk_15 ?_
    refine va_get (D := (dC, dI)) (ci := 5) (v := .ref lg) (C := RX5) (T := TX5) (N := 4) hx hb hts iX7_loreToAsk_1_X5 hown hK hP 1 rfl rfl 0 (by decide) (hts _ kX7_loreToAsk_1_4) (fun _ h9 => h9) rfl dX7_loreToAsk_18 ?_
    exact W.aret (v := .ref lg) hx hb hr (Or.inl ⟨_, rfl⟩) (Or.inr ⟨_, rfl⟩) (fun t ht hW => ⟨0, rfl, trivial, ht⟩) (fun q hq => absurd hq List.not_mem_nil) dX7_loreToAsk_21
  · exact absurd c_1 hni
