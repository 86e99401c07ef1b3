/-! X7_state -/
def rX7_state (ni : Int32) (li : Int32) (mi : Int32) (mv : Int32) (nx : Int32) (al : Int32) (nc : Int32) (nl : Int32) : Int32 := ni
set_option maxRecDepth 20000 in
theorem iX7_state_X7 : ∀ w ∈ u_ws RX7 TX7 16, w ∈ wsX7_state := by decide +kernel
set_option maxRecDepth 20000 in
theorem kX7_state_1 : Cond.fieldLink RX7 70 "MaskHall" "nightIs" "I" ∈ wsX7_state := by decide +kernel
set_option maxHeartbeats 240000 in
set_option maxRecDepth 100000 in
theorem c_X7_state (l : Launch) (dC : Nat → ClassId) (dI : Nat → Nat → Nat) (cI cJ : ClassId) (mh ca la sg pl rw tw ga pa : Nat) (sz : Nat) (ni : Int32) (li : Int32) (mi : Int32) (mv : Int32) (nx : Int32) (al : Int32) (nc : Int32) (nl : Int32) : Met l yX7_state wsX7_state ({ frames := 0, cells := 0, slots := 0, locals := 0 }) (va_Pc [.ref mh] (zI (dC, dI) [(cI, .int), (cJ, .long)] [(mh, .inr (7, [.ref ca, .ref la, .ref sg, .ref pl, .ref rw, .ref tw, .ref ga, .ref pa, .int ni, .int li, .int mi, .int mv, .int nx, .int al, .int nc, .int nl]))] sz)) (vp_Si (fun r => r = rX7_state ni li mi mv nx al nc nl)) 0 0 (fun _ => False) := by
  refine Met.ofW (cc := cX7_state) (maxL := 1) (ret := (some .int)) (by decide) rfl ?_
  intro p e s m args below meth c s₁ B hml hv
  obtain ⟨rfl, hsz, hP, hK, hD0, hG⟩ := hv
  have hx := B.exec
  have hb := B.bytes
  have hr := B.returns
  have hts := atoms_spec (ws := wsX7_state) B.pre
  have hown : s.vm.findClass RX7 = some m.cls := findClass_of_methodNamed B.named
  have hlocks := B.notSynchronized
  subst hsz
  have hD := hD0.self (sz := s.heap.size)
  generalize hAe : va_A [(mh, .inr (7, [.ref ca, .ref la, .ref sg, .ref pl, .ref rw, .ref tw, .ref ga, .ref pa, .int ni, .int li, .int mi, .int mv, .int nx, .int al, .int nc, .int nl]))] s.heap.size = A at hD hG
  have hA : ∀ q : Nat, s.heap.size ≤ q → A q := fun q h => by rw [← hAe]; exact Or.inr h
  have hS : va_S A s.heap s.heap [] := va_S.rf
  have hP : va_P (dC, dI) vwCl [(mh, .inr (7, [.ref ca, .ref la, .ref sg, .ref pl, .ref rw, .ref tw, .ref ga, .ref pa, .int ni, .int li, .int mi, .int mv, .int nx, .int al, .int nc, .int nl]))] s.heap := hP
  have hl := lv_entry ([.ref mh]) (n := 1) (Nat.le_of_ble_eq_true rfl)
  rw [lg_entry_eq]
  generalize (lg_sl ([.ref mh]) ++ List.replicate (1 - (lg_sl ([.ref mh])).length) Slot.unset).toArray = ls at hl ⊢
  have hl : lv_has ls 1 [(0, .ref mh)] := hl
  refine lv_aload_n hx hb dX7_state_0 rfl (lv_at hl 0 rfl) ?_
  refine va_get (D := (dC, dI)) (ci := 7) (v := .int ni) (C := RX7) (T := TX7) (N := 16) hx hb hts iX7_state_X7 hown hK hP 0 rfl rfl 8 (by decide) (hts _ kX7_state_1) (fun _ h9 => h9) rfl dX7_state_1 ?_
  exact W.iret (v := ni) hx hb hr (fun t ht hW => ⟨_, rfl, (by unfold rX7_state; rfl), ht⟩) (fun q hq => absurd hq List.not_mem_nil) dX7_state_4

/-! X7_next -/
def rX7_next (ni : Int32) (li : Int32) (mi : Int32) (mv : Int32) (nx : Int32) (al : Int32) (nc : Int32) (nl : Int32) : Int32 := nx
set_option maxRecDepth 20000 in
theorem iX7_next_X7 : ∀ w ∈ u_ws RX7 TX7 16, w ∈ wsX7_next := by decide +kernel
set_option maxRecDepth 20000 in
theorem kX7_next_1 : Cond.fieldLink RX7 74 "MaskHall" "nextStep" "I" ∈ wsX7_next := by decide +kernel
set_option maxHeartbeats 240000 in
set_option maxRecDepth 100000 in
theorem c_X7_next (l : Launch) (dC : Nat → ClassId) (dI : Nat → Nat → Nat) (cI cJ : ClassId) (mh ca la sg pl rw tw ga pa : Nat) (sz : Nat) (ni : Int32) (li : Int32) (mi : Int32) (mv : Int32) (nx : Int32) (al : Int32) (nc : Int32) (nl : Int32) : Met l yX7_next wsX7_next ({ frames := 0, cells := 0, slots := 0, locals := 0 }) (va_Pc [.ref mh] (zI (dC, dI) [(cI, .int), (cJ, .long)] [(mh, .inr (7, [.ref ca, .ref la, .ref sg, .ref pl, .ref rw, .ref tw, .ref ga, .ref pa, .int ni, .int li, .int mi, .int mv, .int nx, .int al, .int nc, .int nl]))] sz)) (vp_Si (fun r => r = rX7_next ni li mi mv nx al nc nl)) 0 0 (fun _ => False) := by
  refine Met.ofW (cc := cX7_next) (maxL := 1) (ret := (some .int)) (by decide) rfl ?_
  intro p e s m args below meth c s₁ B hml hv
  obtain ⟨rfl, hsz, hP, hK, hD0, hG⟩ := hv
  have hx := B.exec
  have hb := B.bytes
  have hr := B.returns
  have hts := atoms_spec (ws := wsX7_next) B.pre
  have hown : s.vm.findClass RX7 = some m.cls := findClass_of_methodNamed B.named
  have hlocks := B.notSynchronized
  subst hsz
  have hD := hD0.self (sz := s.heap.size)
  generalize hAe : va_A [(mh, .inr (7, [.ref ca, .ref la, .ref sg, .ref pl, .ref rw, .ref tw, .ref ga, .ref pa, .int ni, .int li, .int mi, .int mv, .int nx, .int al, .int nc, .int nl]))] s.heap.size = A at hD hG
  have hA : ∀ q : Nat, s.heap.size ≤ q → A q := fun q h => by rw [← hAe]; exact Or.inr h
  have hS : va_S A s.heap s.heap [] := va_S.rf
  have hP : va_P (dC, dI) vwCl [(mh, .inr (7, [.ref ca, .ref la, .ref sg, .ref pl, .ref rw, .ref tw, .ref ga, .ref pa, .int ni, .int li, .int mi, .int mv, .int nx, .int al, .int nc, .int nl]))] s.heap := hP
  have hl := lv_entry ([.ref mh]) (n := 1) (Nat.le_of_ble_eq_true rfl)
  rw [lg_entry_eq]
  generalize (lg_sl ([.ref mh]) ++ List.replicate (1 - (lg_sl ([.ref mh])).length) Slot.unset).toArray = ls at hl ⊢
  have hl : lv_has ls 1 [(0, .ref mh)] := hl
  refine lv_aload_n hx hb dX7_next_0 rfl (lv_at hl 0 rfl) ?_
  refine va_get (D := (dC, dI)) (ci := 7) (v := .int nx) (C := RX7) (T := TX7) (N := 16) hx hb hts iX7_next_X7 hown hK hP 0 rfl rfl 12 (by decide) (hts _ kX7_next_1) (fun _ h9 => h9) rfl dX7_next_1 ?_
  exact W.iret (v := nx) hx hb hr (fun t ht hW => ⟨_, rfl, (by unfold rX7_next; rfl), ht⟩) (fun q hq => absurd hq List.not_mem_nil) dX7_next_4

/-! X7_can -/
def rX7_can (ni : Int32) (li : Int32) (mi : Int32) (mv : Int32) (nx : Int32) (al : Int32) (nc : Int32) (nl : Int32) (ki : Nat → Int32) (fi : Nat → Int32) (se : Nat → Int32) (th : Nat → Int32) (size : Int32) (on : Int32) (il : Int32) (ba : Int32) (kT : Nat → Int32) (hT : Nat → Int32) (kn : Nat → Int32) (ho : Nat → Int32) : Int32 := (if ni = (1 : Int32) then (if (rX3_canBeClosed ki fi se th size on il ba kT hT kn ho nx) = 0 then (0 : Int32) else (1 : Int32)) else (0 : Int32))
def oX7_can_kT (ni : Int32) (li : Int32) (mi : Int32) (mv : Int32) (nx : Int32) (al : Int32) (nc : Int32) (nl : Int32) (ki : Nat → Int32) (fi : Nat → Int32) (se : Nat → Int32) (th : Nat → Int32) (size : Int32) (on : Int32) (il : Int32) (ba : Int32) (kT : Nat → Int32) (hT : Nat → Int32) (kn : Nat → Int32) (ho : Nat → Int32) : Nat → Int32 := (if ni = (1 : Int32) then (oX3_canBeClosed_kT ki fi se th size on il ba kT hT kn ho nx) else kT)
def oX7_can_hT (ni : Int32) (li : Int32) (mi : Int32) (mv : Int32) (nx : Int32) (al : Int32) (nc : Int32) (nl : Int32) (ki : Nat → Int32) (fi : Nat → Int32) (se : Nat → Int32) (th : Nat → Int32) (size : Int32) (on : Int32) (il : Int32) (ba : Int32) (kT : Nat → Int32) (hT : Nat → Int32) (kn : Nat → Int32) (ho : Nat → Int32) : Nat → Int32 := (if ni = (1 : Int32) then (oX3_canBeClosed_hT ki fi se th size on il ba kT hT kn ho nx) else hT)
set_option maxRecDepth 20000 in
theorem iX7_can_X7 : ∀ w ∈ u_ws RX7 TX7 16, w ∈ wsX7_can := by decide +kernel
set_option maxRecDepth 20000 in
theorem kX7_can_1 : Cond.fieldLink RX7 70 "MaskHall" "nightIs" "I" ∈ wsX7_can := by decide +kernel
set_option maxRecDepth 20000 in
theorem kX7_can_2 : Cond.fieldLink RX7 35 "MaskHall" "plot" "LMaskHall$Plot;" ∈ wsX7_can := by decide +kernel
set_option maxRecDepth 20000 in
theorem kX7_can_3 : Cond.fieldLink RX7 74 "MaskHall" "nextStep" "I" ∈ wsX7_can := by decide +kernel
set_option maxHeartbeats 480000 in
set_option maxRecDepth 100000 in
theorem c_X7_can (l : Launch) (dC : Nat → ClassId) (dI : Nat → Nat → Nat) (cI cJ : ClassId) (mh pl ca ck cf cs ct sg lt kt ht lg kg hg la rw tw ga pa : Nat) (sz : Nat) (ni : Int32) (li : Int32) (mi : Int32) (mv : Int32) (nx : Int32) (al : Int32) (nc : Int32) (nl : Int32) (ki : Nat → Int32) (fi : Nat → Int32) (se : Nat → Int32) (th : Nat → Int32) (size : Int32) (on : Int32) (il : Int32) (ba : Int32) (kT : Nat → Int32) (hT : Nat → Int32) (kn : Nat → Int32) (ho : Nat → Int32) (hsz0 : 0 ≤ size.toInt) (hsz : size.toInt ≤ 12) (hTH : ∀ j : Nat, j < 12 → vp_in (th j) 4) : Met l yX7_can wsX7_can ({ frames := 6, cells := 0, slots := 0, locals := 137 }) (va_Pc [.ref mh] (zI (dC, dI) [(cI, .int), (cJ, .long)] [(mh, .inr (7, [.ref ca, .ref la, .ref sg, .ref pl, .ref rw, .ref tw, .ref ga, .ref pa, .int ni, .int li, .int mi, .int mv, .int nx, .int al, .int nc, .int nl])), (pl, .inr (3, [.ref ca, .ref sg, .ref lt])), (ca, .inr (0, [.ref ck, .ref cf, .ref cs, .ref ct, .int size])), (ck, .inl (cI, 12, .inl ki)), (cf, .inl (cI, 12, .inl fi)), (cs, .inl (cI, 12, .inl se)), (ct, .inl (cI, 12, .inl th)), (sg, .inr (5, [.ref lg, .int on, .int il, .int ba])), (lt, .inr (2, [.ref kt, .ref ht])), (kt, .inl (cI, 4, .inl kT)), (ht, .inl (cI, 4, .inl hT)), (lg, .inr (2, [.ref kg, .ref hg])), (kg, .inl (cI, 4, .inl kn)), (hg, .inl (cI, 4, .inl ho))] sz)) (va_Qi (fun (r : Int32) (u : (Nat → Int32) × (Nat → Int32)) => r = rX7_can ni li mi mv nx al nc nl ki fi se th size on il ba kT hT kn ho ∧ u.1 = oX7_can_kT ni li mi mv nx al nc nl ki fi se th size on il ba kT hT kn ho ∧ u.2 = oX7_can_hT ni li mi mv nx al nc nl ki fi se th size on il ba kT hT kn ho) (fun u => zO (dC, dI) [(cI, .int), (cJ, .long)] [(mh, .inr (7, [.ref ca, .ref la, .ref sg, .ref pl, .ref rw, .ref tw, .ref ga, .ref pa, .int ni, .int li, .int mi, .int mv, .int nx, .int al, .int nc, .int nl])), (pl, .inr (3, [.ref ca, .ref sg, .ref lt])), (ca, .inr (0, [.ref ck, .ref cf, .ref cs, .ref ct, .int size])), (ck, .inl (cI, 12, .inl ki)), (cf, .inl (cI, 12, .inl fi)), (cs, .inl (cI, 12, .inl se)), (ct, .inl (cI, 12, .inl th)), (sg, .inr (5, [.ref lg, .int on, .int il, .int ba])), (lt, .inr (2, [.ref kt, .ref ht])), (kt, .inl (cI, 4, .inl u.1)), (ht, .inl (cI, 4, .inl u.2)), (lg, .inr (2, [.ref kg, .ref hg])), (kg, .inl (cI, 4, .inl kn)), (hg, .inl (cI, 4, .inl ho))] (va_A [(mh, .inr (7, [.ref ca, .ref la, .ref sg, .ref pl, .ref rw, .ref tw, .ref ga, .ref pa, .int ni, .int li, .int mi, .int mv, .int nx, .int al, .int nc, .int nl])), (pl, .inr (3, [.ref ca, .ref sg, .ref lt])), (ca, .inr (0, [.ref ck, .ref cf, .ref cs, .ref ct, .int size])), (ck, .inl (cI, 12, .inl ki)), (cf, .inl (cI, 12, .inl fi)), (cs, .inl (cI, 12, .inl se)), (ct, .inl (cI, 12, .inl th)), (sg, .inr (5, [.ref lg, .int on, .int il, .int ba])), (lt, .inr (2, [.ref kt, .ref ht])), (kt, .inl (cI, 4, .inl kT)), (ht, .inl (cI, 4, .inl hT)), (lg, .inr (2, [.ref kg, .ref hg])), (kg, .inl (cI, 4, .inl kn)), (hg, .inl (cI, 4, .inl ho))] sz)) (va_A [(mh, .inr (7, [.ref ca, .ref la, .ref sg, .ref pl, .ref rw, .ref tw, .ref ga, .ref pa, .int ni, .int li, .int mi, .int mv, .int nx, .int al, .int nc, .int nl])), (pl, .inr (3, [.ref ca, .ref sg, .ref lt])), (ca, .inr (0, [.ref ck, .ref cf, .ref cs, .ref ct, .int size])), (ck, .inl (cI, 12, .inl ki)), (cf, .inl (cI, 12, .inl fi)), (cs, .inl (cI, 12, .inl se)), (ct, .inl (cI, 12, .inl th)), (sg, .inr (5, [.ref lg, .int on, .int il, .int ba])), (lt, .inr (2, [.ref kt, .ref ht])), (kt, .inl (cI, 4, .inl kT)), (ht, .inl (cI, 4, .inl hT)), (lg, .inr (2, [.ref kg, .ref hg])), (kg, .inl (cI, 4, .inl kn)), (hg, .inl (cI, 4, .inl ho))] sz)) 0 0 (va_A [(mh, .inr (7, [.ref ca, .ref la, .ref sg, .ref pl, .ref rw, .ref tw, .ref ga, .ref pa, .int ni, .int li, .int mi, .int mv, .int nx, .int al, .int nc, .int nl])), (pl, .inr (3, [.ref ca, .ref sg, .ref lt])), (ca, .inr (0, [.ref ck, .ref cf, .ref cs, .ref ct, .int size])), (ck, .inl (cI, 12, .inl ki)), (cf, .inl (cI, 12, .inl fi)), (cs, .inl (cI, 12, .inl se)), (ct, .inl (cI, 12, .inl th)), (sg, .inr (5, [.ref lg, .int on, .int il, .int ba])), (lt, .inr (2, [.ref kt, .ref ht])), (kt, .inl (cI, 4, .inl kT)), (ht, .inl (cI, 4, .inl hT)), (lg, .inr (2, [.ref kg, .ref hg])), (kg, .inl (cI, 4, .inl kn)), (hg, .inl (cI, 4, .inl ho))] sz) := by
  refine Met.ofW (cc := cX7_can) (maxL := 1) (ret := (some .boolean)) (by decide) rfl ?_
  intro p e s m args below meth c s₁ B hml hv
  obtain ⟨rfl, hsz, hP, hK, hD0, hG⟩ := hv
  have hx := B.exec
  have hb := B.bytes
  have hr := B.returns
  have hts := atoms_spec (ws := wsX7_can) B.pre
  have hown : s.vm.findClass RX7 = some m.cls := findClass_of_methodNamed B.named
  have hlocks := B.notSynchronized
  subst hsz
  have hD := hD0.self (sz := s.heap.size)
  generalize hAe : va_A [(mh, .inr (7, [.ref ca, .ref la, .ref sg, .ref pl, .ref rw, .ref tw, .ref ga, .ref pa, .int ni, .int li, .int mi, .int mv, .int nx, .int al, .int nc, .int nl])), (pl, .inr (3, [.ref ca, .ref sg, .ref lt])), (ca, .inr (0, [.ref ck, .ref cf, .ref cs, .ref ct, .int size])), (ck, .inl (cI, 12, .inl ki)), (cf, .inl (cI, 12, .inl fi)), (cs, .inl (cI, 12, .inl se)), (ct, .inl (cI, 12, .inl th)), (sg, .inr (5, [.ref lg, .int on, .int il, .int ba])), (lt, .inr (2, [.ref kt, .ref ht])), (kt, .inl (cI, 4, .inl kT)), (ht, .inl (cI, 4, .inl hT)), (lg, .inr (2, [.ref kg, .ref hg])), (kg, .inl (cI, 4, .inl kn)), (hg, .inl (cI, 4, .inl ho))] s.heap.size = A at hD hG ⊢
  have hA : ∀ q : Nat, s.heap.size ≤ q → A q := fun q h => by rw [← hAe]; exact Or.inr h
  have hS : va_S A s.heap s.heap [] := va_S.rf
  have hP : va_P (dC, dI) vwCl [(mh, .inr (7, [.ref ca, .ref la, .ref sg, .ref pl, .ref rw, .ref tw, .ref ga, .ref pa, .int ni, .int li, .int mi, .int mv, .int nx, .int al, .int nc, .int nl])), (pl, .inr (3, [.ref ca, .ref sg, .ref lt])), (ca, .inr (0, [.ref ck, .ref cf, .ref cs, .ref ct, .int size])), (ck, .inl (cI, 12, .inl ki)), (cf, .inl (cI, 12, .inl fi)), (cs, .inl (cI, 12, .inl se)), (ct, .inl (cI, 12, .inl th)), (sg, .inr (5, [.ref lg, .int on, .int il, .int ba])), (lt, .inr (2, [.ref kt, .ref ht])), (kt, .inl (cI, 4, .inl kT)), (ht, .inl (cI, 4, .inl hT)), (lg, .inr (2, [.ref kg, .ref hg])), (kg, .inl (cI, 4, .inl kn)), (hg, .inl (cI, 4, .inl ho))] s.heap := hP
  have hl := lv_entry ([.ref mh]) (n := 1) (Nat.le_of_ble_eq_true rfl)
  rw [lg_entry_eq]
  generalize (lg_sl ([.ref mh]) ++ List.replicate (1 - (lg_sl ([.ref mh])).length) Slot.unset).toArray = ls at hl ⊢
  have hl : lv_has ls 1 [(0, .ref mh)] := hl
  refine lv_aload_n hx hb dX7_can_0 rfl (lv_at hl 0 rfl) ?_
  refine va_get (D := (dC, dI)) (ci := 7) (v := .int ni) (C := RX7) (T := TX7) (N := 16) hx hb hts iX7_can_X7 hown hK hP 0 rfl rfl 8 (by decide) (hts _ kX7_can_1) (fun _ h9 => h9) rfl dX7_can_1 ?_
  refine lv_iconst (v := 1) hx hb dX7_can_4 (by decide) ?_
  refine lv_icmp_ne (tgt := 26) hx hb dX7_can_5 (by decide) (fun c_1 => ?_) (fun c_1 => ?_)
  · refine lv_iconst (v := 0) hx hb dX7_can_26 (by decide) ?_
    exact W.zret (v := (0 : Int32)) hx hb hr (zNar (Or.inl rfl)) (fun t ht hW => ⟨⟨(0 : Int32), (kT, hT), rfl, ⟨(by unfold rX7_can; rw [if_neg c_1]), (by unfold oX7_can_kT; rw [if_neg c_1]), (by unfold oX7_can_hT; rw [if_neg c_1])⟩, (by rw [ht]; exact hP.sub [0, 1, 2, 3, 4, 5, 6, 7, 8, 9, 10, 11, 12, 13] rfl), va_K.moved hW.alike hK, hD.sub [0, 1, 2, 3, 4, 5, 6, 7, 8, 9, 10, 11, 12, 13] (by decide) rfl⟩, hS.F ht⟩) hS.2.2 dX7_can_27
  · refine lv_aload_n hx hb dX7_can_8 rfl (lv_at hl 0 rfl) ?_
    refine va_get (D := (dC, dI)) (ci := 7) (v := .ref pl) (C := RX7) (T := TX7) (N := 16) hx hb hts iX7_can_X7 hown hK hP 0 rfl rfl 3 (by decide) (hts _ kX7_can_2) (fun _ h9 => h9) rfl dX7_can_9 ?_
    refine lv_aload_n hx hb dX7_can_12 rfl (lv_at hl 0 rfl) ?_
    refine va_get (D := (dC, dI)) (ci := 7) (v := .int nx) (C := RX7) (T := TX7) (N := 16) hx hb hts iX7_can_X7 hown hK hP 0 rfl rfl 12 (by decide) (hts _ kX7_can_3) (fun _ h9 => h9) rfl dX7_can_13 ?_
    refine zjI (wr := [(mh, .inr (7, [.ref ca, .ref la, .ref sg, .ref pl, .ref rw, .ref tw, .ref ga, .ref pa, .int ni, .int li, .int mi, .int mv, .int nx, .int al, .int nc, .int nl]))]) (va_runV (As := [.int nx]) (rest := []) ⟨hx, hb, hml, hown, hts⟩ (c_X3_canBeClosed l dC dI cI cJ pl ca ck cf cs ct sg lt kt ht lg kg hg s.heap.size ki fi se th size on il ba kT hT kn ho nx (by assumption) (by assumption) (by assumption)) (cwV 1 hts gX7_can_X3_canBeClosed rfl rfl rfl (by decide +kernel) ⟨Nat.le_of_ble_eq_true rfl, Nat.le_of_ble_eq_true rfl⟩) (zpV hK hP hD hS hA hG [1, 2, 3, 4, 5, 6, 7, 8, 9, 10, 11, 12, 13] (by decide) rfl 3 1 rfl rfl) rfl rfl hl.1 rfl (lv_room (Nat.le_of_ble_eq_true rfl)) dX7_can_16 ⟨Nat.le_of_ble_eq_true rfl, Nat.le_of_ble_eq_true rfl⟩) hP hD hS hA [1, 2, 3, 4, 5, 6, 7, 8, 9, 10, 11, 12, 13] [0] rfl rfl (by decide) (by decide) (fun r u_2 H locs hw_3 hP hD hS => ?_)
    obtain ⟨u_4, u_5⟩ := u_2
    obtain ⟨rfl, rfl, rfl⟩ := hw_3
    have hP : va_P (dC, dI) vwCl [(mh, .inr (7, [.ref ca, .ref la, .ref sg, .ref pl, .ref rw, .ref tw, .ref ga, .ref pa, .int ni, .int li, .int mi, .int mv, .int nx, .int al, .int nc, .int nl])), (pl, .inr (3, [.ref ca, .ref sg, .ref lt])), (ca, .inr (0, [.ref ck, .ref cf, .ref cs, .ref ct, .int size])), (ck, .inl (cI, 12, .inl ki)), (cf, .inl (cI, 12, .inl fi)), (cs, .inl (cI, 12, .inl se)), (ct, .inl (cI, 12, .inl th)), (sg, .inr (5, [.ref lg, .int on, .int il, .int ba])), (lt, .inr (2, [.ref kt, .ref ht])), (kt, .inl (cI, 4, .inl (oX3_canBeClosed_kT ki fi se th size on il ba kT hT kn ho nx))), (ht, .inl (cI, 4, .inl (oX3_canBeClosed_hT ki fi se th size on il ba kT hT kn ho nx))), (lg, .inr (2, [.ref kg, .ref hg])), (kg, .inl (cI, 4, .inl kn)), (hg, .inl (cI, 4, .inl ho))] H := hP
    have hD : va_D A [(mh, .inr (7, [.ref ca, .ref la, .ref sg, .ref pl, .ref rw, .ref tw, .ref ga, .ref pa, .int ni, .int li, .int mi, .int mv, .int nx, .int al, .int nc, .int nl])), (pl, .inr (3, [.ref ca, .ref sg, .ref lt])), (ca, .inr (0, [.ref ck, .ref cf, .ref cs, .ref ct, .int size])), (ck, .inl (cI, 12, .inl ki)), (cf, .inl (cI, 12, .inl fi)), (cs, .inl (cI, 12, .inl se)), (ct, .inl (cI, 12, .inl th)), (sg, .inr (5, [.ref lg, .int on, .int il, .int ba])), (lt, .inr (2, [.ref kt, .ref ht])), (kt, .inl (cI, 4, .inl (oX3_canBeClosed_kT ki fi se th size on il ba kT hT kn ho nx))), (ht, .inl (cI, 4, .inl (oX3_canBeClosed_hT ki fi se th size on il ba kT hT kn ho nx))), (lg, .inr (2, [.ref kg, .ref hg])), (kg, .inl (cI, 4, .inl kn)), (hg, .inl (cI, 4, .inl ho))] := hD
    refine lv_if_eq (tgt := 26) hx hb dX7_can_19 (by decide) (fun c_6 => ?_) (fun c_6 => ?_)
    · refine lv_iconst (v := 0) hx hb dX7_can_26 (by decide) ?_
      exact W.zret (v := (0 : Int32)) hx hb hr (zNar (Or.inl rfl)) (fun t ht hW => ⟨⟨(0 : Int32), ((oX3_canBeClosed_kT ki fi se th size on il ba kT hT kn ho nx), (oX3_canBeClosed_hT ki fi se th size on il ba kT hT kn ho nx)), rfl, ⟨(by unfold rX7_can; rw [if_pos c_1, if_pos c_6]), (by unfold oX7_can_kT; rw [if_pos c_1]), (by unfold oX7_can_hT; rw [if_pos c_1])⟩, (by rw [ht]; exact hP.sub [0, 1, 2, 3, 4, 5, 6, 7, 8, 9, 10, 11, 12, 13] rfl), va_K.moved hW.alike hK, hD.sub [0, 1, 2, 3, 4, 5, 6, 7, 8, 9, 10, 11, 12, 13] (by decide) rfl⟩, hS.F ht⟩) hS.2.2 dX7_can_27
    · refine lv_iconst (v := 1) hx hb dX7_can_22 (by decide) ?_
      refine lv_goto (tgt := 27) hx hb dX7_can_23 (by decide) ?_
      exact W.zret (v := (1 : Int32)) hx hb hr (zNar (Or.inr rfl)) (fun t ht hW => ⟨⟨(1 : Int32), ((oX3_canBeClosed_kT ki fi se th size on il ba kT hT kn ho nx), (oX3_canBeClosed_hT ki fi se th size on il ba kT hT kn ho nx)), rfl, ⟨(by unfold rX7_can; rw [if_pos c_1, if_neg c_6]), (by unfold oX7_can_kT; rw [if_pos c_1]), (by unfold oX7_can_hT; rw [if_pos c_1])⟩, (by rw [ht]; exact hP.sub [0, 1, 2, 3, 4, 5, 6, 7, 8, 9, 10, 11, 12, 13] rfl), va_K.moved hW.alike hK, hD.sub [0, 1, 2, 3, 4, 5, 6, 7, 8, 9, 10, 11, 12, 13] (by decide) rfl⟩, hS.F ht⟩) hS.2.2 dX7_can_27
theorem brX7_can (ni : Int32) (li : Int32) (mi : Int32) (mv : Int32) (nx : Int32) (al : Int32) (nc : Int32) (nl : Int32) (ki : Nat → Int32) (fi : Nat → Int32) (se : Nat → Int32) (th : Nat → Int32) (size : Int32) (on : Int32) (il : Int32) (ba : Int32) (kT : Nat → Int32) (hT : Nat → Int32) (kn : Nat → Int32) (ho : Nat → Int32) : rX7_can ni li mi mv nx al nc nl ki fi se th size on il ba kT hT kn ho = 0 ∨ rX7_can ni li mi mv nx al nc nl ki fi se th size on il ba kT hT kn ho = 1 := by
  unfold rX7_can
  repeat' split
  all_goals first | exact Or.inl rfl | exact Or.inr rfl | exact brX3_canBeClosed _ _ _ _ _ _ _ _ _ _ _ _ _

/-! X7_way -/
def rX7_way (ni : Int32) (li : Int32) (mi : Int32) (mv : Int32) (nx : Int32) (al : Int32) (nc : Int32) (nl : Int32) (ki : Nat → Int32) (fi : Nat → Int32) (se : Nat → Int32) (th : Nat → Int32) (size : Int32) (on : Int32) (il : Int32) (ba : Int32) (kT : Nat → Int32) (hT : Nat → Int32) (kn : Nat → Int32) (ho : Nat → Int32) : Int32 := (if (rX7_can ni li mi mv nx al nc nl ki fi se th size on il ba kT hT kn ho) = 0 then (-1 : Int32) else (rX4_movesTo ki fi se th size on il ba kn ho nx))
def oX7_way_kT (ni : Int32) (li : Int32) (mi : Int32) (mv : Int32) (nx : Int32) (al : Int32) (nc : Int32) (nl : Int32) (ki : Nat → Int32) (fi : Nat → Int32) (se : Nat → Int32) (th : Nat → Int32) (size : Int32) (on : Int32) (il : Int32) (ba : Int32) (kT : Nat → Int32) (hT : Nat → Int32) (kn : Nat → Int32) (ho : Nat → Int32) : Nat → Int32 := (oX7_can_kT ni li mi mv nx al nc nl ki fi se th size on il ba kT hT kn ho)
def oX7_way_hT (ni : Int32) (li : Int32) (mi : Int32) (mv : Int32) (nx : Int32) (al : Int32) (nc : Int32) (nl : Int32) (ki : Nat → Int32) (fi : Nat → Int32) (se : Nat → Int32) (th : Nat → Int32) (size : Int32) (on : Int32) (il : Int32) (ba : Int32) (kT : Nat → Int32) (hT : Nat → Int32) (kn : Nat → Int32) (ho : Nat → Int32) : Nat → Int32 := (oX7_can_hT ni li mi mv nx al nc nl ki fi se th size on il ba kT hT kn ho)
set_option maxRecDepth 20000 in
theorem iX7_way_X7 : ∀ w ∈ u_ws RX7 TX7 16, w ∈ wsX7_way := by decide +kernel
set_option maxRecDepth 20000 in
theorem kX7_way_1 : Cond.fieldLink RX7 42 "MaskHall" "reckonedWay" "LMaskHall$ReckonedWay;" ∈ wsX7_way := by decide +kernel
set_option maxRecDepth 20000 in
theorem kX7_way_2 : Cond.fieldLink RX7 74 "MaskHall" "nextStep" "I" ∈ wsX7_way := by decide +kernel
set_option maxHeartbeats 400000 in
set_option maxRecDepth 100000 in
theorem c_X7_way (l : Launch) (dC : Nat → ClassId) (dI : Nat → Nat → Nat) (cI cJ : ClassId) (mh pl ca ck cf cs ct sg lt kt ht lg kg hg rw la tw ga pa : Nat) (sz : Nat) (ni : Int32) (li : Int32) (mi : Int32) (mv : Int32) (nx : Int32) (al : Int32) (nc : Int32) (nl : Int32) (ki : Nat → Int32) (fi : Nat → Int32) (se : Nat → Int32) (th : Nat → Int32) (size : Int32) (on : Int32) (il : Int32) (ba : Int32) (kT : Nat → Int32) (hT : Nat → Int32) (kn : Nat → Int32) (ho : Nat → Int32) (hsz0 : 0 ≤ size.toInt) (hsz : size.toInt ≤ 12) (hTH : ∀ j : Nat, j < 12 → vp_in (th j) 4) : Met l yX7_way wsX7_way ({ frames := 7, cells := 0, slots := 0, locals := 157 }) (va_Pc [.ref mh] (zI (dC, dI) [(cI, .int), (cJ, .long)] [(mh, .inr (7, [.ref ca, .ref la, .ref sg, .ref pl, .ref rw, .ref tw, .ref ga, .ref pa, .int ni, .int li, .int mi, .int mv, .int nx, .int al, .int nc, .int nl])), (pl, .inr (3, [.ref ca, .ref sg, .ref lt])), (ca, .inr (0, [.ref ck, .ref cf, .ref cs, .ref ct, .int size])), (ck, .inl (cI, 12, .inl ki)), (cf, .inl (cI, 12, .inl fi)), (cs, .inl (cI, 12, .inl se)), (ct, .inl (cI, 12, .inl th)), (sg, .inr (5, [.ref lg, .int on, .int il, .int ba])), (lt, .inr (2, [.ref kt, .ref ht])), (kt, .inl (cI, 4, .inl kT)), (ht, .inl (cI, 4, .inl hT)), (lg, .inr (2, [.ref kg, .ref hg])), (kg, .inl (cI, 4, .inl kn)), (hg, .inl (cI, 4, .inl ho)), (rw, .inr (4, [.ref ca, .ref sg]))] sz)) (va_Qi (fun (r : Int32) (u : (Nat → Int32) × (Nat → Int32)) => r = rX7_way ni li mi mv nx al nc nl ki fi se th size on il ba kT hT kn ho ∧ u.1 = oX7_way_kT ni li mi mv nx al nc nl ki fi se th size on il ba kT hT kn ho ∧ u.2 = oX7_way_hT ni li mi mv nx al nc nl ki fi se th size on il ba kT hT kn ho) (fun u => zO (dC, dI) [(cI, .int), (cJ, .long)] [(mh, .inr (7, [.ref ca, .ref la, .ref sg, .ref pl, .ref rw, .ref tw, .ref ga, .ref pa, .int ni, .int li, .int mi, .int mv, .int nx, .int al, .int nc, .int nl])), (pl, .inr (3, [.ref ca, .ref sg, .ref lt])), (ca, .inr (0, [.ref ck, .ref cf, .ref cs, .ref ct, .int size])), (ck, .inl (cI, 12, .inl ki)), (cf, .inl (cI, 12, .inl fi)), (cs, .inl (cI, 12, .inl se)), (ct, .inl (cI, 12, .inl th)), (sg, .inr (5, [.ref lg, .int on, .int il, .int ba])), (lt, .inr (2, [.ref kt, .ref ht])), (kt, .inl (cI, 4, .inl u.1)), (ht, .inl (cI, 4, .inl u.2)), (lg, .inr (2, [.ref kg, .ref hg])), (kg, .inl (cI, 4, .inl kn)), (hg, .inl (cI, 4, .inl ho)), (rw, .inr (4, [.ref ca, .ref sg]))] (va_A [(mh, .inr (7, [.ref ca, .ref la, .ref sg, .ref pl, .ref rw, .ref tw, .ref ga, .ref pa, .int ni, .int li, .int mi, .int mv, .int nx, .int al, .int nc, .int nl])), (pl, .inr (3, [.ref ca, .ref sg, .ref lt])), (ca, .inr (0, [.ref ck, .ref cf, .ref cs, .ref ct, .int size])), (ck, .inl (cI, 12, .inl ki)), (cf, .inl (cI, 12, .inl fi)), (cs, .inl (cI, 12, .inl se)), (ct, .inl (cI, 12, .inl th)), (sg, .inr (5, [.ref lg, .int on, .int il, .int ba])), (lt, .inr (2, [.ref kt, .ref ht])), (kt, .inl (cI, 4, .inl kT)), (ht, .inl (cI, 4, .inl hT)), (lg, .inr (2, [.ref kg, .ref hg])), (kg, .inl (cI, 4, .inl kn)), (hg, .inl (cI, 4, .inl ho)), (rw, .inr (4, [.ref ca, .ref sg]))] sz)) (va_A [(mh, .inr (7, [.ref ca, .ref la, .ref sg, .ref pl, .ref rw, .ref tw, .ref ga, .ref pa, .int ni, .int li, .int mi, .int mv, .int nx, .int al, .int nc, .int nl])), (pl, .inr (3, [.ref ca, .ref sg, .ref lt])), (ca, .inr (0, [.ref ck, .ref cf, .ref cs, .ref ct, .int size])), (ck, .inl (cI, 12, .inl ki)), (cf, .inl (cI, 12, .inl fi)), (cs, .inl (cI, 12, .inl se)), (ct, .inl (cI, 12, .inl th)), (sg, .inr (5, [.ref lg, .int on, .int il, .int ba])), (lt, .inr (2, [.ref kt, .ref ht])), (kt, .inl (cI, 4, .inl kT)), (ht, .inl (cI, 4, .inl hT)), (lg, .inr (2, [.ref kg, .ref hg])), (kg, .inl (cI, 4, .inl kn)), (hg, .inl (cI, 4, .inl ho)), (rw, .inr (4, [.ref ca, .ref sg]))] sz)) 0 0 (va_A [(mh, .inr (7, [.ref ca, .ref la, .ref sg, .ref pl, .ref rw, .ref tw, .ref ga, .ref pa, .int ni, .int li, .int mi, .int mv, .int nx, .int al, .int nc, .int nl])), (pl, .inr (3, [.ref ca, .ref sg, .ref lt])), (ca, .inr (0, [.ref ck, .ref cf, .ref cs, .ref ct, .int size])), (ck, .inl (cI, 12, .inl ki)), (cf, .inl (cI, 12, .inl fi)), (cs, .inl (cI, 12, .inl se)), (ct, .inl (cI, 12, .inl th)), (sg, .inr (5, [.ref lg, .int on, .int il, .int ba])), (lt, .inr (2, [.ref kt, .ref ht])), (kt, .inl (cI, 4, .inl kT)), (ht, .inl (cI, 4, .inl hT)), (lg, .inr (2, [.ref kg, .ref hg])), (kg, .inl (cI, 4, .inl kn)), (hg, .inl (cI, 4, .inl ho)), (rw, .inr (4, [.ref ca, .ref sg]))] sz) := by
  refine Met.ofW (cc := cX7_way) (maxL := 1) (ret := (some .int)) (by decide) rfl ?_
  intro p e s m args below meth c s₁ B hml hv
  obtain ⟨rfl, hsz, hP, hK, hD0, hG⟩ := hv
  have hx := B.exec
  have hb := B.bytes
  have hr := B.returns
  have hts := atoms_spec (ws := wsX7_way) B.pre
  have hown : s.vm.findClass RX7 = some m.cls := findClass_of_methodNamed B.named
  have hlocks := B.notSynchronized
  subst hsz
  have hD := hD0.self (sz := s.heap.size)
  generalize hAe : va_A [(mh, .inr (7, [.ref ca, .ref la, .ref sg, .ref pl, .ref rw, .ref tw, .ref ga, .ref pa, .int ni, .int li, .int mi, .int mv, .int nx, .int al, .int nc, .int nl])), (pl, .inr (3, [.ref ca, .ref sg, .ref lt])), (ca, .inr (0, [.ref ck, .ref cf, .ref cs, .ref ct, .int size])), (ck, .inl (cI, 12, .inl ki)), (cf, .inl (cI, 12, .inl fi)), (cs, .inl (cI, 12, .inl se)), (ct, .inl (cI, 12, .inl th)), (sg, .inr (5, [.ref lg, .int on, .int il, .int ba])), (lt, .inr (2, [.ref kt, .ref ht])), (kt, .inl (cI, 4, .inl kT)), (ht, .inl (cI, 4, .inl hT)), (lg, .inr (2, [.ref kg, .ref hg])), (kg, .inl (cI, 4, .inl kn)), (hg, .inl (cI, 4, .inl ho)), (rw, .inr (4, [.ref ca, .ref sg]))] s.heap.size = A at hD hG ⊢
  have hA : ∀ q : Nat, s.heap.size ≤ q → A q := fun q h => by rw [← hAe]; exact Or.inr h
  have hS : va_S A s.heap s.heap [] := va_S.rf
  have hP : va_P (dC, dI) vwCl [(mh, .inr (7, [.ref ca, .ref la, .ref sg, .ref pl, .ref rw, .ref tw, .ref ga, .ref pa, .int ni, .int li, .int mi, .int mv, .int nx, .int al, .int nc, .int nl])), (pl, .inr (3, [.ref ca, .ref sg, .ref lt])), (ca, .inr (0, [.ref ck, .ref cf, .ref cs, .ref ct, .int size])), (ck, .inl (cI, 12, .inl ki)), (cf, .inl (cI, 12, .inl fi)), (cs, .inl (cI, 12, .inl se)), (ct, .inl (cI, 12, .inl th)), (sg, .inr (5, [.ref lg, .int on, .int il, .int ba])), (lt, .inr (2, [.ref kt, .ref ht])), (kt, .inl (cI, 4, .inl kT)), (ht, .inl (cI, 4, .inl hT)), (lg, .inr (2, [.ref kg, .ref hg])), (kg, .inl (cI, 4, .inl kn)), (hg, .inl (cI, 4, .inl ho)), (rw, .inr (4, [.ref ca, .ref sg]))] s.heap := hP
  have hl := lv_entry ([.ref mh]) (n := 1) (Nat.le_of_ble_eq_true rfl)
  rw [lg_entry_eq]
  generalize (lg_sl ([.ref mh]) ++ List.replicate (1 - (lg_sl ([.ref mh])).length) Slot.unset).toArray = ls at hl ⊢
  have hl : lv_has ls 1 [(0, .ref mh)] := hl
  refine lv_aload_n hx hb dX7_way_0 rfl (lv_at hl 0 rfl) ?_
  refine zjI (wr := [(rw, .inr (4, [.ref ca, .ref sg]))]) (va_runV (As := []) (rest := []) ⟨hx, hb, hml, hown, hts⟩ (c_X7_can l dC dI cI cJ mh pl ca ck cf cs ct sg lt kt ht lg kg hg la rw tw ga pa s.heap.size ni li mi mv nx al nc nl ki fi se th size on il ba kT hT kn ho (by assumption) (by assumption) (by assumption)) (cwV 0 hts gX7_way_X7_can rfl rfl rfl (by decide +kernel) ⟨Nat.le_of_ble_eq_true rfl, Nat.le_of_ble_eq_true rfl⟩) (zpV hK hP hD hS hA hG [0, 1, 2, 3, 4, 5, 6, 7, 8, 9, 10, 11, 12, 13] (by decide) rfl 7 0 rfl rfl) rfl rfl hl.1 rfl (lv_room (Nat.le_of_ble_eq_true rfl)) dX7_way_1 ⟨Nat.le_of_ble_eq_true rfl, Nat.le_of_ble_eq_true rfl⟩) hP hD hS hA [0, 1, 2, 3, 4, 5, 6, 7, 8, 9, 10, 11, 12, 13] [14] rfl rfl (by decide) (by decide) (fun r u_1 H locs hw_2 hP hD hS => ?_)
  obtain ⟨u_3, u_4⟩ := u_1
  obtain ⟨rfl, rfl, rfl⟩ := hw_2
  have hP : va_P (dC, dI) vwCl [(rw, .inr (4, [.ref ca, .ref sg])), (mh, .inr (7, [.ref ca, .ref la, .ref sg, .ref pl, .ref rw, .ref tw, .ref ga, .ref pa, .int ni, .int li, .int mi, .int mv, .int nx, .int al, .int nc, .int nl])), (pl, .inr (3, [.ref ca, .ref sg, .ref lt])), (ca, .inr (0, [.ref ck, .ref cf, .ref cs, .ref ct, .int size])), (ck, .inl (cI, 12, .inl ki)), (cf, .inl (cI, 12, .inl fi)), (cs, .inl (cI, 12, .inl se)), (ct, .inl (cI, 12, .inl th)), (sg, .inr (5, [.ref lg, .int on, .int il, .int ba])), (lt, .inr (2, [.ref kt, .ref ht])), (kt, .inl (cI, 4, .inl (oX7_can_kT ni li mi mv nx al nc nl ki fi se th size on il ba kT hT kn ho))), (ht, .inl (cI, 4, .inl (oX7_can_hT ni li mi mv nx al nc nl ki fi se th size on il ba kT hT kn ho))), (lg, .inr (2, [.ref kg, .ref hg])), (kg, .inl (cI, 4, .inl kn)), (hg, .inl (cI, 4, .inl ho))] H := hP
  have hD : va_D A [(rw, .inr (4, [.ref ca, .ref sg])), (mh, .inr (7, [.ref ca, .ref la, .ref sg, .ref pl, .ref rw, .ref tw, .ref ga, .ref pa, .int ni, .int li, .int mi, .int mv, .int nx, .int al, .int nc, .int nl])), (pl, .inr (3, [.ref ca, .ref sg, .ref lt])), (ca, .inr (0, [.ref ck, .ref cf, .ref cs, .ref ct, .int size])), (ck, .inl (cI, 12, .inl ki)), (cf, .inl (cI, 12, .inl fi)), (cs, .inl (cI, 12, .inl se)), (ct, .inl (cI, 12, .inl th)), (sg, .inr (5, [.ref lg, .int on, .int il, .int ba])), (lt, .inr (2, [.ref kt, .ref ht])), (kt, .inl (cI, 4, .inl (oX7_can_kT ni li mi mv nx al nc nl ki fi se th size on il ba kT hT kn ho))), (ht, .inl (cI, 4, .inl (oX7_can_hT ni li mi mv nx al nc nl ki fi se th size on il ba kT hT kn ho))), (lg, .inr (2, [.ref kg, .ref hg])), (kg, .inl (cI, 4, .inl kn)), (hg, .inl (cI, 4, .inl ho))] := hD
  refine lv_if_eq (tgt := 21) hx hb dX7_way_4 (by decide) (fun c_5 => ?_) (fun c_5 => ?_)
  · refine lv_iconst (v := -1) hx hb dX7_way_21 (by decide) ?_
    exact W.iret (v := (-1 : Int32)) hx hb hr (fun t ht hW => ⟨⟨(-1 : Int32), ((oX7_can_kT ni li mi mv nx al nc nl ki fi se th size on il ba kT hT kn ho), (oX7_can_hT ni li mi mv nx al nc nl ki fi se th size on il ba kT hT kn ho)), rfl, ⟨(by unfold rX7_way; rw [if_pos c_5]), (by unfold oX7_way_kT; rfl), (by unfold oX7_way_hT; rfl)⟩, (by rw [ht]; exact hP.sub [1, 2, 3, 4, 5, 6, 7, 8, 9, 10, 11, 12, 13, 14, 0] rfl), va_K.moved hW.alike hK, hD.sub [1, 2, 3, 4, 5, 6, 7, 8, 9, 10, 11, 12, 13, 14, 0] (by decide) rfl⟩, hS.F ht⟩) hS.2.2 dX7_way_22
  · refine lv_aload_n hx hb dX7_way_7 rfl (lv_at hl 0 rfl) ?_
    refine va_get (D := (dC, dI)) (ci := 7) (v := .ref rw) (C := RX7) (T := TX7) (N := 16) hx hb hts iX7_way_X7 hown hK hP 1 rfl rfl 4 (by decide) (hts _ kX7_way_1) (fun _ h9 => h9) rfl dX7_way_8 ?_
    refine lv_aload_n hx hb dX7_way_11 rfl (lv_at hl 0 rfl) ?_
    refine va_get (D := (dC, dI)) (ci := 7) (v := .int nx) (C := RX7) (T := TX7) (N := 16) hx hb hts iX7_way_X7 hown hK hP 1 rfl rfl 12 (by decide) (hts _ kX7_way_2) (fun _ h9 => h9) rfl dX7_way_12 ?_
    refine vp_callSi (va_Run.run (va_runV (As := [.int nx]) (rest := []) ⟨hx, hb, hml, hown, hts⟩ (c_X4_movesTo l dC dI cI cJ rw ca ck cf cs ct sg lg kg hg H.size ki fi se th size on il ba kn ho nx (by assumption) (by assumption) (by assumption)) (cwV 1 hts gX7_way_X4_movesTo rfl rfl rfl (by decide +kernel) ⟨Nat.le_of_ble_eq_true rfl, Nat.le_of_ble_eq_true rfl⟩) (zpV hK hP hD hS hA hG [0, 3, 4, 5, 6, 7, 8, 12, 13, 14] (by decide) rfl 4 0 rfl rfl) rfl rfl hl.1 rfl (lv_room (Nat.le_of_ble_eq_true rfl)) dX7_way_15 ⟨Nat.le_of_ble_eq_true rfl, Nat.le_of_ble_eq_true rfl⟩)) (fun r hr_6 => ?_)
    subst hr_6
    refine lv_goto (tgt := 22) hx hb dX7_way_18 (by decide) ?_
    exact W.iret (v := (rX4_movesTo ki fi se th size on il ba kn ho nx)) hx hb hr (fun t ht hW => ⟨⟨(rX4_movesTo ki fi se th size on il ba kn ho nx), ((oX7_can_kT ni li mi mv nx al nc nl ki fi se th size on il ba kT hT kn ho), (oX7_can_hT ni li mi mv nx al nc nl ki fi se th size on il ba kT hT kn ho)), rfl, ⟨(by unfold rX7_way; rw [if_neg c_5]), (by unfold oX7_way_kT; rfl), (by unfold oX7_way_hT; rfl)⟩, (by rw [ht]; exact hP.sub [1, 2, 3, 4, 5, 6, 7, 8, 9, 10, 11, 12, 13, 14, 0] rfl), va_K.moved hW.alike hK, hD.sub [1, 2, 3, 4, 5, 6, 7, 8, 9, 10, 11, 12, 13, 14, 0] (by decide) rfl⟩, hS.F ht⟩) hS.2.2 dX7_way_22

/-! X7_wayAnew -/
def rX7_wayAnew (ni : Int32) (li : Int32) (mi : Int32) (mv : Int32) (nx : Int32) (al : Int32) (nc : Int32) (nl : Int32) (ki : Nat → Int32) (fi : Nat → Int32) (se : Nat → Int32) (th : Nat → Int32) (size : Int32) (on : Int32) (il : Int32) (ba : Int32) (kT : Nat → Int32) (hT : Nat → Int32) (kn : Nat → Int32) (ho : Nat → Int32) (fr : Nat → Int64) (fb : Nat → Int64) : Int32 := (if (rX7_can ni li mi mv nx al nc nl ki fi se th size on il ba kT hT kn ho) = 0 then (-1 : Int32) else (rX6_movesTo fr fb ki fi se th size on il ba kn ho nx))
def oX7_wayAnew_kT (ni : Int32) (li : Int32) (mi : Int32) (mv : Int32) (nx : Int32) (al : Int32) (nc : Int32) (nl : Int32) (ki : Nat → Int32) (fi : Nat → Int32) (se : Nat → Int32) (th : Nat → Int32) (size : Int32) (on : Int32) (il : Int32) (ba : Int32) (kT : Nat → Int32) (hT : Nat → Int32) (kn : Nat → Int32) (ho : Nat → Int32) (fr : Nat → Int64) (fb : Nat → Int64) : Nat → Int32 := (oX7_can_kT ni li mi mv nx al nc nl ki fi se th size on il ba kT hT kn ho)
def oX7_wayAnew_hT (ni : Int32) (li : Int32) (mi : Int32) (mv : Int32) (nx : Int32) (al : Int32) (nc : Int32) (nl : Int32) (ki : Nat → Int32) (fi : Nat → Int32) (se : Nat → Int32) (th : Nat → Int32) (size : Int32) (on : Int32) (il : Int32) (ba : Int32) (kT : Nat → Int32) (hT : Nat → Int32) (kn : Nat → Int32) (ho : Nat → Int32) (fr : Nat → Int64) (fb : Nat → Int64) : Nat → Int32 := (oX7_can_hT ni li mi mv nx al nc nl ki fi se th size on il ba kT hT kn ho)
def oX7_wayAnew_fr (ni : Int32) (li : Int32) (mi : Int32) (mv : Int32) (nx : Int32) (al : Int32) (nc : Int32) (nl : Int32) (ki : Nat → Int32) (fi : Nat → Int32) (se : Nat → Int32) (th : Nat → Int32) (size : Int32) (on : Int32) (il : Int32) (ba : Int32) (kT : Nat → Int32) (hT : Nat → Int32) (kn : Nat → Int32) (ho : Nat → Int32) (fr : Nat → Int64) (fb : Nat → Int64) : Nat → Int64 := (if (rX7_can ni li mi mv nx al nc nl ki fi se th size on il ba kT hT kn ho) = 0 then fr else (oX6_movesTo_fr fr fb ki fi se th size on il ba kn ho nx))
def oX7_wayAnew_fb (ni : Int32) (li : Int32) (mi : Int32) (mv : Int32) (nx : Int32) (al : Int32) (nc : Int32) (nl : Int32) (ki : Nat → Int32) (fi : Nat → Int32) (se : Nat → Int32) (th : Nat → Int32) (size : Int32) (on : Int32) (il : Int32) (ba : Int32) (kT : Nat → Int32) (hT : Nat → Int32) (kn : Nat → Int32) (ho : Nat → Int32) (fr : Nat → Int64) (fb : Nat → Int64) : Nat → Int64 := (if (rX7_can ni li mi mv nx al nc nl ki fi se th size on il ba kT hT kn ho) = 0 then fb else (oX6_movesTo_fb fr fb ki fi se th size on il ba kn ho nx))
set_option maxRecDepth 20000 in
theorem iX7_wayAnew_X7 : ∀ w ∈ u_ws RX7 TX7 16, w ∈ wsX7_wayAnew := by decide +kernel
set_option maxRecDepth 20000 in
theorem kX7_wayAnew_1 : Cond.fieldLink RX7 49 "MaskHall" "triedWay" "LMaskHall$TriedWay;" ∈ wsX7_wayAnew := by decide +kernel
set_option maxRecDepth 20000 in
theorem kX7_wayAnew_2 : Cond.fieldLink RX7 74 "MaskHall" "nextStep" "I" ∈ wsX7_wayAnew := by decide +kernel
set_option maxHeartbeats 400000 in
set_option maxRecDepth 100000 in
theorem c_X7_wayAnew (l : Launch) (dC : Nat → ClassId) (dI : Nat → Nat → Nat) (cI cJ : ClassId) (mh pl ca ck cf cs ct sg lt kt ht lg kg hg tw re be la rw ga pa : Nat) (sz : Nat) (ni : Int32) (li : Int32) (mi : Int32) (mv : Int32) (nx : Int32) (al : Int32) (nc : Int32) (nl : Int32) (ki : Nat → Int32) (fi : Nat → Int32) (se : Nat → Int32) (th : Nat → Int32) (size : Int32) (on : Int32) (il : Int32) (ba : Int32) (kT : Nat → Int32) (hT : Nat → Int32) (kn : Nat → Int32) (ho : Nat → Int32) (fr : Nat → Int64) (fb : Nat → Int64) (hsz0 : 0 ≤ size.toInt) (hsz : size.toInt ≤ 12) (hTH : ∀ j : Nat, j < 12 → vp_in (th j) 4) (hFI : ∀ j : Nat, j < 12 → vp_in (fi j) 6) (hSE : ∀ j : Nat, j < 12 → vp_in (se j) 6) : Met l yX7_wayAnew wsX7_wayAnew ({ frames := 7, cells := 0, slots := 0, locals := 157 }) (va_Pc [.ref mh] (zI (dC, dI) [(cI, .int), (cJ, .long)] [(mh, .inr (7, [.ref ca, .ref la, .ref sg, .ref pl, .ref rw, .ref tw, .ref ga, .ref pa, .int ni, .int li, .int mi, .int mv, .int nx, .int al, .int nc, .int nl])), (pl, .inr (3, [.ref ca, .ref sg, .ref lt])), (ca, .inr (0, [.ref ck, .ref cf, .ref cs, .ref ct, .int size])), (ck, .inl (cI, 12, .inl ki)), (cf, .inl (cI, 12, .inl fi)), (cs, .inl (cI, 12, .inl se)), (ct, .inl (cI, 12, .inl th)), (sg, .inr (5, [.ref lg, .int on, .int il, .int ba])), (lt, .inr (2, [.ref kt, .ref ht])), (kt, .inl (cI, 4, .inl kT)), (ht, .inl (cI, 4, .inl hT)), (lg, .inr (2, [.ref kg, .ref hg])), (kg, .inl (cI, 4, .inl kn)), (hg, .inl (cI, 4, .inl ho)), (tw, .inr (6, [.ref ca, .ref sg, .ref re, .ref be])), (re, .inl (cJ, 64, .inr (.inl fr))), (be, .inl (cJ, 64, .inr (.inl fb)))] sz)) (va_Qi (fun (r : Int32) (u : (Nat → Int32) × (Nat → Int32) × (Nat → Int64) × (Nat → Int64)) => r = rX7_wayAnew ni li mi mv nx al nc nl ki fi se th size on il ba kT hT kn ho fr fb ∧ u.1 = oX7_wayAnew_kT ni li mi mv nx al nc nl ki fi se th size on il ba kT hT kn ho fr fb ∧ u.2.1 = oX7_wayAnew_hT ni li mi mv nx al nc nl ki fi se th size on il ba kT hT kn ho fr fb ∧ u.2.2.1 = oX7_wayAnew_fr ni li mi mv nx al nc nl ki fi se th size on il ba kT hT kn ho fr fb ∧ u.2.2.2 = oX7_wayAnew_fb ni li mi mv nx al nc nl ki fi se th size on il ba kT hT kn ho fr fb) (fun u => zO (dC, dI) [(cI, .int), (cJ, .long)] [(mh, .inr (7, [.ref ca, .ref la, .ref sg, .ref pl, .ref rw, .ref tw, .ref ga, .ref pa, .int ni, .int li, .int mi, .int mv, .int nx, .int al, .int nc, .int nl])), (pl, .inr (3, [.ref ca, .ref sg, .ref lt])), (ca, .inr (0, [.ref ck, .ref cf, .ref cs, .ref ct, .int size])), (ck, .inl (cI, 12, .inl ki)), (cf, .inl (cI, 12, .inl fi)), (cs, .inl (cI, 12, .inl se)), (ct, .inl (cI, 12, .inl th)), (sg, .inr (5, [.ref lg, .int on, .int il, .int ba])), (lt, .inr (2, [.ref kt, .ref ht])), (kt, .inl (cI, 4, .inl u.1)), (ht, .inl (cI, 4, .inl u.2.1)), (lg, .inr (2, [.ref kg, .ref hg])), (kg, .inl (cI, 4, .inl kn)), (hg, .inl (cI, 4, .inl ho)), (tw, .inr (6, [.ref ca, .ref sg, .ref re, .ref be])), (re, .inl (cJ, 64, .inr (.inl u.2.2.1))), (be, .inl (cJ, 64, .inr (.inl u.2.2.2)))] (va_A [(mh, .inr (7, [.ref ca, .ref la, .ref sg, .ref pl, .ref rw, .ref tw, .ref ga, .ref pa, .int ni, .int li, .int mi, .int mv, .int nx, .int al, .int nc, .int nl])), (pl, .inr (3, [.ref ca, .ref sg, .ref lt])), (ca, .inr (0, [.ref ck, .ref cf, .ref cs, .ref ct, .int size])), (ck, .inl (cI, 12, .inl ki)), (cf, .inl (cI, 12, .inl fi)), (cs, .inl (cI, 12, .inl se)), (ct, .inl (cI, 12, .inl th)), (sg, .inr (5, [.ref lg, .int on, .int il, .int ba])), (lt, .inr (2, [.ref kt, .ref ht])), (kt, .inl (cI, 4, .inl kT)), (ht, .inl (cI, 4, .inl hT)), (lg, .inr (2, [.ref kg, .ref hg])), (kg, .inl (cI, 4, .inl kn)), (hg, .inl (cI, 4, .inl ho)), (tw, .inr (6, [.ref ca, .ref sg, .ref re, .ref be])), (re, .inl (cJ, 64, .inr (.inl fr))), (be, .inl (cJ, 64, .inr (.inl fb)))] sz)) (va_A [(mh, .inr (7, [.ref ca, .ref la, .ref sg, .ref pl, .ref rw, .ref tw, .ref ga, .ref pa, .int ni, .int li, .int mi, .int mv, .int nx, .int al, .int nc, .int nl])), (pl, .inr (3, [.ref ca, .ref sg, .ref lt])), (ca, .inr (0, [.ref ck, .ref cf, .ref cs, .ref ct, .int size])), (ck, .inl (cI, 12, .inl ki)), (cf, .inl (cI, 12, .inl fi)), (cs, .inl (cI, 12, .inl se)), (ct, .inl (cI, 12, .inl th)), (sg, .inr (5, [.ref lg, .int on, .int il, .int ba])), (lt, .inr (2, [.ref kt, .ref ht])), (kt, .inl (cI, 4, .inl kT)), (ht, .inl (cI, 4, .inl hT)), (lg, .inr (2, [.ref kg, .ref hg])), (kg, .inl (cI, 4, .inl kn)), (hg, .inl (cI, 4, .inl ho)), (tw, .inr (6, [.ref ca, .ref sg, .ref re, .ref be])), (re, .inl (cJ, 64, .inr (.inl fr))), (be, .inl (cJ, 64, .inr (.inl fb)))] sz)) 0 0 (va_A [(mh, .inr (7, [.ref ca, .ref la, .ref sg, .ref pl, .ref rw, .ref tw, .ref ga, .ref pa, .int ni, .int li, .int mi, .int mv, .int nx, .int al, .int nc, .int nl])), (pl, .inr (3, [.ref ca, .ref sg, .ref lt])), (ca, .inr (0, [.ref ck, .ref cf, .ref cs, .ref ct, .int size])), (ck, .inl (cI, 12, .inl ki)), (cf, .inl (cI, 12, .inl fi)), (cs, .inl (cI, 12, .inl se)), (ct, .inl (cI, 12, .inl th)), (sg, .inr (5, [.ref lg, .int on, .int il, .int ba])), (lt, .inr (2, [.ref kt, .ref ht])), (kt, .inl (cI, 4, .inl kT)), (ht, .inl (cI, 4, .inl hT)), (lg, .inr (2, [.ref kg, .ref hg])), (kg, .inl (cI, 4, .inl kn)), (hg, .inl (cI, 4, .inl ho)), (tw, .inr (6, [.ref ca, .ref sg, .ref re, .ref be])), (re, .inl (cJ, 64, .inr (.inl fr))), (be, .inl (cJ, 64, .inr (.inl fb)))] sz) := by
  refine Met.ofW (cc := cX7_wayAnew) (maxL := 1) (ret := (some .int)) (by decide) rfl ?_
  intro p e s m args below meth c s₁ B hml hv
  obtain ⟨rfl, hsz, hP, hK, hD0, hG⟩ := hv
  have hx := B.exec
  have hb := B.bytes
  have hr := B.returns
  have hts := atoms_spec (ws := wsX7_wayAnew) B.pre
  have hown : s.vm.findClass RX7 = some m.cls := findClass_of_methodNamed B.named
  have hlocks := B.notSynchronized
  subst hsz
  have hD := hD0.self (sz := s.heap.size)
  generalize hAe : va_A [(mh, .inr (7, [.ref ca, .ref la, .ref sg, .ref pl, .ref rw, .ref tw, .ref ga, .ref pa, .int ni, .int li, .int mi, .int mv, .int nx, .int al, .int nc, .int nl])), (pl, .inr (3, [.ref ca, .ref sg, .ref lt])), (ca, .inr (0, [.ref ck, .ref cf, .ref cs, .ref ct, .int size])), (ck, .inl (cI, 12, .inl ki)), (cf, .inl (cI, 12, .inl fi)), (cs, .inl (cI, 12, .inl se)), (ct, .inl (cI, 12, .inl th)), (sg, .inr (5, [.ref lg, .int on, .int il, .int ba])), (lt, .inr (2, [.ref kt, .ref ht])), (kt, .inl (cI, 4, .inl kT)), (ht, .inl (cI, 4, .inl hT)), (lg, .inr (2, [.ref kg, .ref hg])), (kg, .inl (cI, 4, .inl kn)), (hg, .inl (cI, 4, .inl ho)), (tw, .inr (6, [.ref ca, .ref sg, .ref re, .ref be])), (re, .inl (cJ, 64, .inr (.inl fr))), (be, .inl (cJ, 64, .inr (.inl fb)))] s.heap.size = A at hD hG ⊢
  have hA : ∀ q : Nat, s.heap.size ≤ q → A q := fun q h => by rw [← hAe]; exact Or.inr h
  have hS : va_S A s.heap s.heap [] := va_S.rf
  have hP : va_P (dC, dI) vwCl [(mh, .inr (7, [.ref ca, .ref la, .ref sg, .ref pl, .ref rw, .ref tw, .ref ga, .ref pa, .int ni, .int li, .int mi, .int mv, .int nx, .int al, .int nc, .int nl])), (pl, .inr (3, [.ref ca, .ref sg, .ref lt])), (ca, .inr (0, [.ref ck, .ref cf, .ref cs, .ref ct, .int size])), (ck, .inl (cI, 12, .inl ki)), (cf, .inl (cI, 12, .inl fi)), (cs, .inl (cI, 12, .inl se)), (ct, .inl (cI, 12, .inl th)), (sg, .inr (5, [.ref lg, .int on, .int il, .int ba])), (lt, .inr (2, [.ref kt, .ref ht])), (kt, .inl (cI, 4, .inl kT)), (ht, .inl (cI, 4, .inl hT)), (lg, .inr (2, [.ref kg, .ref hg])), (kg, .inl (cI, 4, .inl kn)), (hg, .inl (cI, 4, .inl ho)), (tw, .inr (6, [.ref ca, .ref sg, .ref re, .ref be])), (re, .inl (cJ, 64, .inr (.inl fr))), (be, .inl (cJ, 64, .inr (.inl fb)))] s.heap := hP
  have hl := lv_entry ([.ref mh]) (n := 1) (Nat.le_of_ble_eq_true rfl)
  rw [lg_entry_eq]
  generalize (lg_sl ([.ref mh]) ++ List.replicate (1 - (lg_sl ([.ref mh])).length) Slot.unset).toArray = ls at hl ⊢
  have hl : lv_has ls 1 [(0, .ref mh)] := hl
  refine lv_aload_n hx hb dX7_wayAnew_0 rfl (lv_at hl 0 rfl) ?_
  refine zjI (wr := [(tw, .inr (6, [.ref ca, .ref sg, .ref re, .ref be])), (re, .inl (cJ, 64, .inr (.inl fr))), (be, .inl (cJ, 64, .inr (.inl fb)))]) (va_runV (As := []) (rest := []) ⟨hx, hb, hml, hown, hts⟩ (c_X7_can l dC dI cI cJ mh pl ca ck cf cs ct sg lt kt ht lg kg hg la rw tw ga pa s.heap.size ni li mi mv nx al nc nl ki fi se th size on il ba kT hT kn ho (by assumption) (by assumption) (by assumption)) (cwV 0 hts gX7_wayAnew_X7_can rfl rfl rfl (by decide +kernel) ⟨Nat.le_of_ble_eq_true rfl, Nat.le_of_ble_eq_true rfl⟩) (zpV hK hP hD hS hA hG [0, 1, 2, 3, 4, 5, 6, 7, 8, 9, 10, 11, 12, 13] (by decide) rfl 7 0 rfl rfl) rfl rfl hl.1 rfl (lv_room (Nat.le_of_ble_eq_true rfl)) dX7_wayAnew_1 ⟨Nat.le_of_ble_eq_true rfl, Nat.le_of_ble_eq_true rfl⟩) hP hD hS hA [0, 1, 2, 3, 4, 5, 6, 7, 8, 9, 10, 11, 12, 13] [14, 15, 16] rfl rfl (by decide) (by decide) (fun r u_1 H locs hw_2 hP hD hS => ?_)
  obtain ⟨u_3, u_4⟩ := u_1
  obtain ⟨rfl, rfl, rfl⟩ := hw_2
  have hP : va_P (dC, dI) vwCl [(tw, .inr (6, [.ref ca, .ref sg, .ref re, .ref be])), (re, .inl (cJ, 64, .inr (.inl fr))), (be, .inl (cJ, 64, .inr (.inl fb))), (mh, .inr (7, [.ref ca, .ref la, .ref sg, .ref pl, .ref rw, .ref tw, .ref ga, .ref pa, .int ni, .int li, .int mi, .int mv, .int nx, .int al, .int nc, .int nl])), (pl, .inr (3, [.ref ca, .ref sg, .ref lt])), (ca, .inr (0, [.ref ck, .ref cf, .ref cs, .ref ct, .int size])), (ck, .inl (cI, 12, .inl ki)), (cf, .inl (cI, 12, .inl fi)), (cs, .inl (cI, 12, .inl se)), (ct, .inl (cI, 12, .inl th)), (sg, .inr (5, [.ref lg, .int on, .int il, .int ba])), (lt, .inr (2, [.ref kt, .ref ht])), (kt, .inl (cI, 4, .inl (oX7_can_kT ni li mi mv nx al nc nl ki fi se th size on il ba kT hT kn ho))), (ht, .inl (cI, 4, .inl (oX7_can_hT ni li mi mv nx al nc nl ki fi se th size on il ba kT hT kn ho))), (lg, .inr (2, [.ref kg, .ref hg])), (kg, .inl (cI, 4, .inl kn)), (hg, .inl (cI, 4, .inl ho))] H := hP
  have hD : va_D A [(tw, .inr (6, [.ref ca, .ref sg, .ref re, .ref be])), (re, .inl (cJ, 64, .inr (.inl fr))), (be, .inl (cJ, 64, .inr (.inl fb))), (mh, .inr (7, [.ref ca, .ref la, .ref sg, .ref pl, .ref rw, .ref tw, .ref ga, .ref pa, .int ni, .int li, .int mi, .int mv, .int nx, .int al, .int nc, .int nl])), (pl, .inr (3, [.ref ca, .ref sg, .ref lt])), (ca, .inr (0, [.ref ck, .ref cf, .ref cs, .ref ct, .int size])), (ck, .inl (cI, 12, .inl ki)), (cf, .inl (cI, 12, .inl fi)), (cs, .inl (cI, 12, .inl se)), (ct, .inl (cI, 12, .inl th)), (sg, .inr (5, [.ref lg, .int on, .int il, .int ba])), (lt, .inr (2, [.ref kt, .ref ht])), (kt, .inl (cI, 4, .inl (oX7_can_kT ni li mi mv nx al nc nl ki fi se th size on il ba kT hT kn ho))), (ht, .inl (cI, 4, .inl (oX7_can_hT ni li mi mv nx al nc nl ki fi se th size on il ba kT hT kn ho))), (lg, .inr (2, [.ref kg, .ref hg])), (kg, .inl (cI, 4, .inl kn)), (hg, .inl (cI, 4, .inl ho))] := hD
  refine lv_if_eq (tgt := 21) hx hb dX7_wayAnew_4 (by decide) (fun c_5 => ?_) (fun c_5 => ?_)
  · refine lv_iconst (v := -1) hx hb dX7_wayAnew_21 (by decide) ?_
    exact W.iret (v := (-1 : Int32)) hx hb hr (fun t ht hW => ⟨⟨(-1 : Int32), ((oX7_can_kT ni li mi mv nx al nc nl ki fi se th size on il ba kT hT kn ho), (oX7_can_hT ni li mi mv nx al nc nl ki fi se th size on il ba kT hT kn ho), fr, fb), rfl, ⟨(by unfold rX7_wayAnew; rw [if_pos c_5]), (by unfold oX7_wayAnew_kT; rfl), (by unfold oX7_wayAnew_hT; rfl), (by unfold oX7_wayAnew_fr; rw [if_pos c_5]), (by unfold oX7_wayAnew_fb; rw [if_pos c_5])⟩, (by rw [ht]; exact hP.sub [3, 4, 5, 6, 7, 8, 9, 10, 11, 12, 13, 14, 15, 16, 0, 1, 2] rfl), va_K.moved hW.alike hK, hD.sub [3, 4, 5, 6, 7, 8, 9, 10, 11, 12, 13, 14, 15, 16, 0, 1, 2] (by decide) rfl⟩, hS.F ht⟩) hS.2.2 dX7_wayAnew_22
  · refine lv_aload_n hx hb dX7_wayAnew_7 rfl (lv_at hl 0 rfl) ?_
    refine va_get (D := (dC, dI)) (ci := 7) (v := .ref tw) (C := RX7) (T := TX7) (N := 16) hx hb hts iX7_wayAnew_X7 hown hK hP 3 rfl rfl 5 (by decide) (hts _ kX7_wayAnew_1) (fun _ h9 => h9) rfl dX7_wayAnew_8 ?_
    refine lv_aload_n hx hb dX7_wayAnew_11 rfl (lv_at hl 0 rfl) ?_
    refine va_get (D := (dC, dI)) (ci := 7) (v := .int nx) (C := RX7) (T := TX7) (N := 16) hx hb hts iX7_wayAnew_X7 hown hK hP 3 rfl rfl 12 (by decide) (hts _ kX7_wayAnew_2) (fun _ h9 => h9) rfl dX7_wayAnew_12 ?_
    refine zjI (wr := [(mh, .inr (7, [.ref ca, .ref la, .ref sg, .ref pl, .ref rw, .ref tw, .ref ga, .ref pa, .int ni, .int li, .int mi, .int mv, .int nx, .int al, .int nc, .int nl])), (pl, .inr (3, [.ref ca, .ref sg, .ref lt])), (lt, .inr (2, [.ref kt, .ref ht])), (kt, .inl (cI, 4, .inl (oX7_can_kT ni li mi mv nx al nc nl ki fi se th size on il ba kT hT kn ho))), (ht, .inl (cI, 4, .inl (oX7_can_hT ni li mi mv nx al nc nl ki fi se th size on il ba kT hT kn ho)))]) (va_runV (As := [.int nx]) (rest := []) ⟨hx, hb, hml, hown, hts⟩ (c_X6_movesTo l dC dI cI cJ tw re be ca ck cf cs ct sg lg kg hg H.size fr fb ki fi se th size on il ba kn ho nx (by assumption) (by assumption) (by assumption) (by assumption) (by assumption)) (cwV 1 hts gX7_wayAnew_X6_movesTo rfl rfl rfl (by decide +kernel) ⟨Nat.le_of_ble_eq_true rfl, Nat.le_of_ble_eq_true rfl⟩) (zpV hK hP hD hS hA hG [0, 1, 2, 5, 6, 7, 8, 9, 10, 14, 15, 16] (by decide) rfl 6 0 rfl rfl) rfl rfl hl.1 rfl (lv_room (Nat.le_of_ble_eq_true rfl)) dX7_wayAnew_15 ⟨Nat.le_of_ble_eq_true rfl, Nat.le_of_ble_eq_true rfl⟩) hP hD hS hA [0, 1, 2, 5, 6, 7, 8, 9, 10, 14, 15, 16] [3, 4, 11, 12, 13] rfl rfl (by decide) (by decide) (fun r u_6 H locs hw_7 hP hD hS => ?_)
    obtain ⟨u_8, u_9⟩ := u_6
    obtain ⟨rfl, rfl, rfl⟩ := hw_7
    have hP : va_P (dC, dI) vwCl [(mh, .inr (7, [.ref ca, .ref la, .ref sg, .ref pl, .ref rw, .ref tw, .ref ga, .ref pa, .int ni, .int li, .int mi, .int mv, .int nx, .int al, .int nc, .int nl])), (pl, .inr (3, [.ref ca, .ref sg, .ref lt])), (lt, .inr (2, [.ref kt, .ref ht])), (kt, .inl (cI, 4, .inl (oX7_can_kT ni li mi mv nx al nc nl ki fi se th size on il ba kT hT kn ho))), (ht, .inl (cI, 4, .inl (oX7_can_hT ni li mi mv nx al nc nl ki fi se th size on il ba kT hT kn ho))), (tw, .inr (6, [.ref ca, .ref sg, .ref re, .ref be])), (re, .inl (cJ, 64, .inr (.inl (oX6_movesTo_fr fr fb ki fi se th size on il ba kn ho nx)))), (be, .inl (cJ, 64, .inr (.inl (oX6_movesTo_fb fr fb ki fi se th size on il ba kn ho nx)))), (ca, .inr (0, [.ref ck, .ref cf, .ref cs, .ref ct, .int size])), (ck, .inl (cI, 12, .inl ki)), (cf, .inl (cI, 12, .inl fi)), (cs, .inl (cI, 12, .inl se)), (ct, .inl (cI, 12, .inl th)), (sg, .inr (5, [.ref lg, .int on, .int il, .int ba])), (lg, .inr (2, [.ref kg, .ref hg])), (kg, .inl (cI, 4, .inl kn)), (hg, .inl (cI, 4, .inl ho))] H := hP
    have hD : va_D A [(mh, .inr (7, [.ref ca, .ref la, .ref sg, .ref pl, .ref rw, .ref tw, .ref ga, .ref pa, .int ni, .int li, .int mi, .int mv, .int nx, .int al, .int nc, .int nl])), (pl, .inr (3, [.ref ca, .ref sg, .ref lt])), (lt, .inr (2, [.ref kt, .ref ht])), (kt, .inl (cI, 4, .inl (oX7_can_kT ni li mi mv nx al nc nl ki fi se th size on il ba kT hT kn ho))), (ht, .inl (cI, 4, .inl (oX7_can_hT ni li mi mv nx al nc nl ki fi se th size on il ba kT hT kn ho))), (tw, .inr (6, [.ref ca, .ref sg, .ref re, .ref be])), (re, .inl (cJ, 64, .inr (.inl (oX6_movesTo_fr fr fb ki fi se th size on il ba kn ho nx)))), (be, .inl (cJ, 64, .inr (.inl (oX6_movesTo_fb fr fb ki fi se th size on il ba kn ho nx)))), (ca, .inr (0, [.ref ck, .ref cf, .ref cs, .ref ct, .int size])), (ck, .inl (cI, 12, .inl ki)), (cf, .inl (cI, 12, .inl fi)), (cs, .inl (cI, 12, .inl se)), (ct, .inl (cI, 12, .inl th)), (sg, .inr (5, [.ref lg, .int on, .int il, .int ba])), (lg, .inr (2, [.ref kg, .ref hg])), (kg, .inl (cI, 4, .inl kn)), (hg, .inl (cI, 4, .inl ho))] := hD
    refine lv_goto (tgt := 22) hx hb dX7_wayAnew_18 (by decide) ?_
    exact W.iret (v := (rX6_movesTo fr fb ki fi se th size on il ba kn ho nx)) hx hb hr (fun t ht hW => ⟨⟨(rX6_movesTo fr fb ki fi se th size on il ba kn ho nx), ((oX7_can_kT ni li mi mv nx al nc nl ki fi se th size on il ba kT hT kn ho), (oX7_can_hT ni li mi mv nx al nc nl ki fi se th size on il ba kT hT kn ho), (oX6_movesTo_fr fr fb ki fi se th size on il ba kn ho nx), (oX6_movesTo_fb fr fb ki fi se th size on il ba kn ho nx)), rfl, ⟨(by unfold rX7_wayAnew; rw [if_neg c_5]), (by unfold oX7_wayAnew_kT; rfl), (by unfold oX7_wayAnew_hT; rfl), (by unfold oX7_wayAnew_fr; rw [if_neg c_5]), (by unfold oX7_wayAnew_fb; rw [if_neg c_5])⟩, (by rw [ht]; exact hP.sub [0, 1, 8, 9, 10, 11, 12, 13, 2, 3, 4, 14, 15, 16, 5, 6, 7] rfl), va_K.moved hW.alike hK, hD.sub [0, 1, 8, 9, 10, 11, 12, 13, 2, 3, 4, 14, 15, 16, 5, 6, 7] (by decide) rfl⟩, hS.F ht⟩) hS.2.2 dX7_wayAnew_22

/-! X7_isKnown -/
def xX7_isKnown (ni : Int32) (li : Int32) (mi : Int32) (mv : Int32) (nx : Int32) (al : Int32) (nc : Int32) (nl : Int32) (kb0 : Nat → Int32) (hb0 : Nat → Int32) (on : Int32) (il : Int32) (ba : Int32) (kn : Nat → Int32) (ho : Nat → Int32) (p1 : Int32) (p2 : Int32) : Nat := (if (xX7_needMask p1) = 0 then (if (xX7_needSecret p2) = 0 then 0 else (xX7_needSecret p2)) else (xX7_needMask p1))
def rX7_isKnown (ni : Int32) (li : Int32) (mi : Int32) (mv : Int32) (nx : Int32) (al : Int32) (nc : Int32) (nl : Int32) (kb0 : Nat → Int32) (hb0 : Nat → Int32) (on : Int32) (il : Int32) (ba : Int32) (kn : Nat → Int32) (ho : Nat → Int32) (p1 : Int32) (p2 : Int32) : Int32 := (if ni = 0 then (rX2_isKnower kb0 hb0 p1 p2) else (rX2_isKnower kn ho p1 p2))
set_option maxHeartbeats 460000 in
set_option maxRecDepth 100000 in
theorem c_X7_isKnown (l : Launch) (hfl : l.stackTraces = false) (dC : Nat → ClassId) (dI : Nat → Nat → Nat) (cI cJ : ClassId) (mh la ka hh sg lg kg hg ca pl rw tw ga pa : Nat) (sz : Nat) (ni : Int32) (li : Int32) (mi : Int32) (mv : Int32) (nx : Int32) (al : Int32) (nc : Int32) (nl : Int32) (kb0 : Nat → Int32) (hb0 : Nat → Int32) (on : Int32) (il : Int32) (ba : Int32) (kn : Nat → Int32) (ho : Nat → Int32) (p1 : Int32) (p2 : Int32) : vx_Met l yX7_isKnown wsX7_isKnown ({ frames := 7, cells := 1, slots := 6, locals := 102 }) (va_Pc [.ref mh, .int p1, .int p2] (zI (dC, dI) [(cI, .int), (cJ, .long)] [(mh, .inr (7, [.ref ca, .ref la, .ref sg, .ref pl, .ref rw, .ref tw, .ref ga, .ref pa, .int ni, .int li, .int mi, .int mv, .int nx, .int al, .int nc, .int nl])), (la, .inr (2, [.ref ka, .ref hh])), (ka, .inl (cI, 4, .inl kb0)), (hh, .inl (cI, 4, .inl hb0)), (sg, .inr (5, [.ref lg, .int on, .int il, .int ba])), (lg, .inr (2, [.ref kg, .ref hg])), (kg, .inl (cI, 4, .inl kn)), (hg, .inl (cI, 4, .inl ho))] sz)) (vp_Si (fun r => xX7_isKnown ni li mi mv nx al nc nl kb0 hb0 on il ba kn ho p1 p2 = 0 ∧ r = rX7_isKnown ni li mi mv nx al nc nl kb0 hb0 on il ba kn ho p1 p2)) (zX (fun k => xX7_isKnown ni li mi mv nx al nc nl kb0 hb0 on il ba kn ho p1 p2 = k ∧ k ≠ 0) sz) 1 6 (fun _ => False) := by
  refine vx_ofW (cc := cX7_isKnown) (maxL := 3) (ret := (some .boolean)) (by decide) rfl ?_
  intro p e s m args below meth c s₁ B hml hto hv
  obtain ⟨rfl, hsz, hP, hK, hD0, hG⟩ := hv
  have hx := B.exec
  have hb := B.bytes
  have hr := B.returns
  have hts := atoms_spec (ws := wsX7_isKnown) B.pre
  have hown : s.vm.findClass RX7 = some m.cls := findClass_of_methodNamed B.named
  have hlocks := B.notSynchronized
  subst hsz
  have hD := hD0.self (sz := s.heap.size)
  generalize hAe : va_A [(mh, .inr (7, [.ref ca, .ref la, .ref sg, .ref pl, .ref rw, .ref tw, .ref ga, .ref pa, .int ni, .int li, .int mi, .int mv, .int nx, .int al, .int nc, .int nl])), (la, .inr (2, [.ref ka, .ref hh])), (ka, .inl (cI, 4, .inl kb0)), (hh, .inl (cI, 4, .inl hb0)), (sg, .inr (5, [.ref lg, .int on, .int il, .int ba])), (lg, .inr (2, [.ref kg, .ref hg])), (kg, .inl (cI, 4, .inl kn)), (hg, .inl (cI, 4, .inl ho))] s.heap.size = A at hD hG
  have hA : ∀ q : Nat, s.heap.size ≤ q → A q := fun q h => by rw [← hAe]; exact Or.inr h
  have hS : va_S A s.heap s.heap [] := va_S.rf
  have hP : va_P (dC, dI) vwCl [(mh, .inr (7, [.ref ca, .ref la, .ref sg, .ref pl, .ref rw, .ref tw, .ref ga, .ref pa, .int ni, .int li, .int mi, .int mv, .int nx, .int al, .int nc, .int nl])), (la, .inr (2, [.ref ka, .ref hh])), (ka, .inl (cI, 4, .inl kb0)), (hh, .inl (cI, 4, .inl hb0)), (sg, .inr (5, [.ref lg, .int on, .int il, .int ba])), (lg, .inr (2, [.ref kg, .ref hg])), (kg, .inl (cI, 4, .inl kn)), (hg, .inl (cI, 4, .inl ho))] s.heap := hP
  have hl := lv_entry ([.ref mh, .int p1, .int p2]) (n := 3) (Nat.le_of_ble_eq_true rfl)
  rw [lg_entry_eq]
  generalize (lg_sl ([.ref mh, .int p1, .int p2]) ++ List.replicate (3 - (lg_sl ([.ref mh, .int p1, .int p2])).length) Slot.unset).toArray = ls at hl ⊢
  have hl : lv_has ls 3 [(0, .ref mh), (1, .int p1), (2, .int p2)] := hl
  refine lv_iload_n hx hb dX7_isKnown_0 rfl (lv_at hl 1 rfl) ?_
  refine zxSv (px := fun k9 => (xX7_needMask p1) = k9 ∧ k9 ≠ 0) (vx_runS (As := [.int p1]) (rest := []) ⟨hx, hb, hml, hown, hts⟩ (c_X7_needMask l hfl dC dI cI cJ s.heap.size p1 ) (va_cwS 1 hts gX7_isKnown_X7_needMask rfl rfl rfl (by decide +kernel) ⟨Nat.le_of_ble_eq_true rfl, Nat.le_of_ble_eq_true rfl⟩) (zpS hK hP hD hS hA hG [] (by decide) rfl) rfl rfl hl.1 rfl (lv_room (Nat.le_of_ble_eq_true rfl)) dX7_isKnown_1 ⟨Nat.le_of_ble_eq_true rfl, Nat.le_of_ble_eq_true rfl⟩) (fun q h => h) hS hA (fun k9 ce q9 H1 locs1 hw_1 hz1 hk1 hS1 hlo hce hcv hcl => ?_) (fun hw_1 => ?_)
  · exact vx_out (mc := 1) (ms := 6) (fun x h => (hto x h).elim) hlocks hce hcv hcl (fun t ht hW => ⟨k9, ⟨(by have hn9 := hw_1.2; rw [← hw_1.1] at hn9; rw [← hw_1.1]; unfold xX7_isKnown; rw [if_neg hn9]), hw_1.2⟩, rfl, (by rw [ht]; exact hz1), (fun q h9 _ => by rw [ht]; exact hk1 q h9)⟩) (by rw [hlo rfl]; exact fun z h => absurd h List.not_mem_nil) (by decide) (by decide)
  · refine lv_iload_n hx hb dX7_isKnown_4 rfl (lv_at hl 2 rfl) ?_
    refine zxSv (px := fun k9 => (xX7_needSecret p2) = k9 ∧ k9 ≠ 0) (vx_runS (As := [.int p2]) (rest := []) ⟨hx, hb, hml, hown, hts⟩ (c_X7_needSecret l hfl dC dI cI cJ s.heap.size p2 ) (va_cwS 1 hts gX7_isKnown_X7_needSecret rfl rfl rfl (by decide +kernel) ⟨Nat.le_of_ble_eq_true rfl, Nat.le_of_ble_eq_true rfl⟩) (zpS hK hP hD hS hA hG [] (by decide) rfl) rfl rfl hl.1 rfl (lv_room (Nat.le_of_ble_eq_true rfl)) dX7_isKnown_5 ⟨Nat.le_of_ble_eq_true rfl, Nat.le_of_ble_eq_true rfl⟩) (fun q h => h) hS hA (fun k9 ce q9 H1 locs1 hw_2 hz1 hk1 hS1 hlo hce hcv hcl => ?_) (fun hw_2 => ?_)
    · exact vx_out (mc := 1) (ms := 6) (fun x h => (hto x h).elim) hlocks hce hcv hcl (fun t ht hW => ⟨k9, ⟨(by have hn9 := hw_2.2; rw [← hw_2.1] at hn9; rw [← hw_2.1]; unfold xX7_isKnown; rw [if_pos hw_1, if_neg hn9]), hw_2.2⟩, rfl, (by rw [ht]; exact hz1), (fun q h9 _ => by rw [ht]; exact hk1 q h9)⟩) (by rw [hlo rfl]; exact fun z h => absurd h List.not_mem_nil) (by decide) (by decide)
    · refine lv_aload_n hx hb dX7_isKnown_8 rfl (lv_at hl 0 rfl) ?_
      by_cases c_3 : ni = 0
      · refine va_csr (va_Run.run (va_runV (As := []) (rest := []) ⟨hx, hb, hml, hown, hts⟩ (c_X7_loreToAsk_0 l dC dI cI cJ mh sg ca la pl rw tw ga pa lg s.heap.size ni li mi mv nx al nc nl on il ba (by assumption)) (cwV 0 hts gX7_isKnown_X7_loreToAsk rfl rfl rfl (by decide +kernel) ⟨Nat.le_of_ble_eq_true rfl, Nat.le_of_ble_eq_true rfl⟩) (zpV hK hP hD hS hA hG [0, 4] (by decide) rfl 7 0 rfl rfl) rfl rfl hl.1 rfl (lv_room (Nat.le_of_ble_eq_true rfl)) dX7_isKnown_9 ⟨Nat.le_of_ble_eq_true rfl, Nat.le_of_ble_eq_true rfl⟩)) (fun r9 _ => ?_)
        refine lv_iload_n hx hb dX7_isKnown_12 rfl (lv_at hl 1 rfl) ?_
        refine lv_iload_n hx hb dX7_isKnown_13 rfl (lv_at hl 2 rfl) ?_
        refine vp_callSi (va_Run.run (va_runV (As := [.int p1, .int p2]) (rest := []) ⟨hx, hb, hml, hown, hts⟩ (c_X2_isKnower l dC dI cI cJ la ka hh s.heap.size kb0 hb0 p1 p2 (zSc (by assumption))) (cwV 2 hts gX7_isKnown_X2_isKnower rfl rfl rfl (by decide +kernel) ⟨Nat.le_of_ble_eq_true rfl, Nat.le_of_ble_eq_true rfl⟩) (zpV hK hP hD hS hA hG [1, 2, 3] (by decide) rfl 2 1 rfl rfl) rfl rfl hl.1 rfl (lv_room (Nat.le_of_ble_eq_true rfl)) dX7_isKnown_14 ⟨Nat.le_of_ble_eq_true rfl, Nat.le_of_ble_eq_true rfl⟩)) (fun r hr_4 => ?_)
        subst hr_4
        exact W.widen (k := 1) (n := 6) (by decide) (by decide) (vx_ret (W.zret (v := (rX2_isKnower kb0 hb0 p1 p2)) hx hb hr (zNar (brX2_isKnower _ _ _ _)) (fun t ht hW => ⟨_, rfl, ⟨(by unfold xX7_isKnown; rw [if_pos hw_1, if_pos hw_2]), (by unfold rX7_isKnown; rw [if_pos c_3])⟩, ht⟩) (fun q hq => absurd hq List.not_mem_nil) dX7_isKnown_17))
      · refine va_csr (va_Run.run (va_runV (As := []) (rest := []) ⟨hx, hb, hml, hown, hts⟩ (c_X7_loreToAsk_1 l dC dI cI cJ mh sg ca la pl rw tw ga pa lg s.heap.size ni li mi mv nx al nc nl on il ba (by assumption)) (cwV 0 hts gX7_isKnown_X7_loreToAsk rfl rfl rfl (by decide +kernel) ⟨Nat.le_of_ble_eq_true rfl, Nat.le_of_ble_eq_true rfl⟩) (zpV hK hP hD hS hA hG [0, 4] (by decide) rfl 7 0 rfl rfl) rfl rfl hl.1 rfl (lv_room (Nat.le_of_ble_eq_true rfl)) dX7_isKnown_9 ⟨Nat.le_of_ble_eq_true rfl, Nat.le_of_ble_eq_true rfl⟩)) (fun r9 _ => ?_)
        refine lv_iload_n hx hb dX7_isKnown_12 rfl (lv_at hl 1 rfl) ?_
        refine lv_iload_n hx hb dX7_isKnown_13 rfl (lv_at hl 2 rfl) ?_
        refine vp_callSi (va_Run.run (va_runV (As := [.int p1, .int p2]) (rest := []) ⟨hx, hb, hml, hown, hts⟩ (c_X2_isKnower l dC dI cI cJ lg kg hg s.heap.size kn ho p1 p2 (zSc (by assumption))) (cwV 2 hts gX7_isKnown_X2_isKnower rfl rfl rfl (by decide +kernel) ⟨Nat.le_of_ble_eq_true rfl, Nat.le_of_ble_eq_true rfl⟩) (zpV hK hP hD hS hA hG [5, 6, 7] (by decide) rfl 2 5 rfl rfl) rfl rfl hl.1 rfl (lv_room (Nat.le_of_ble_eq_true rfl)) dX7_isKnown_14 ⟨Nat.le_of_ble_eq_true rfl, Nat.le_of_ble_eq_true rfl⟩)) (fun r hr_5 => ?_)
        subst hr_5
        exact W.widen (k := 1) (n := 6) (by decide) (by decide) (vx_ret (W.zret (v := (rX2_isKnower kn ho p1 p2)) hx hb hr (zNar (brX2_isKnower _ _ _ _)) (fun t ht hW => ⟨_, rfl, ⟨(by unfold xX7_isKnown; rw [if_pos hw_1, if_pos hw_2]), (by unfold rX7_isKnown; rw [if_neg c_3])⟩, ht⟩) (fun q hq => absurd hq List.not_mem_nil) dX7_isKnown_17))
theorem brX7_isKnown (ni : Int32) (li : Int32) (mi : Int32) (mv : Int32) (nx : Int32) (al : Int32) (nc : Int32) (nl : Int32) (kb0 : Nat → Int32) (hb0 : Nat → Int32) (on : Int32) (il : Int32) (ba : Int32) (kn : Nat → Int32) (ho : Nat → Int32) (p1 : Int32) (p2 : Int32) : rX7_isKnown ni li mi mv nx al nc nl kb0 hb0 on il ba kn ho p1 p2 = 0 ∨ rX7_isKnown ni li mi mv nx al nc nl kb0 hb0 on il ba kn ho p1 p2 = 1 := by
  unfold rX7_isKnown
  repeat' split
  all_goals first | exact Or.inl rfl | exact Or.inr rfl | exact brX2_isKnower _ _ _ _

/-! X7_holder -/
def xX7_holder (ni : Int32) (li : Int32) (mi : Int32) (mv : Int32) (nx : Int32) (al : Int32) (nc : Int32) (nl : Int32) (kb0 : Nat → Int32) (hb0 : Nat → Int32) (on : Int32) (il : Int32) (ba : Int32) (kn : Nat → Int32) (ho : Nat → Int32) (p1 : Int32) : Nat := (if (xX7_needProp p1) = 0 then 0 else (xX7_needProp p1))
def rX7_holder (ni : Int32) (li : Int32) (mi : Int32) (mv : Int32) (nx : Int32) (al : Int32) (nc : Int32) (nl : Int32) (kb0 : Nat → Int32) (hb0 : Nat → Int32) (on : Int32) (il : Int32) (ba : Int32) (kn : Nat → Int32) (ho : Nat → Int32) (p1 : Int32) : Int32 := (if ni = 0 then (hb0 (p1).toNatClampNeg) else (ho (p1).toNatClampNeg))
set_option maxRecDepth 20000 in
theorem iX7_holder_X2 : ∀ w ∈ u_ws RX2 TX2 2, w ∈ wsX7_holder := by decide +kernel
set_option maxRecDepth 20000 in
theorem kX7_holder_1 : Cond.fieldLink RX7 98 "MaskHall$Lore" "holders" "[I" ∈ wsX7_holder := by decide +kernel
set_option maxHeartbeats 420000 in
set_option maxRecDepth 100000 in
theorem c_X7_holder (l : Launch) (hfl : l.stackTraces = false) (dC : Nat → ClassId) (dI : Nat → Nat → Nat) (cI cJ : ClassId) (mh la ka hh sg lg kg hg ca pl rw tw ga pa : Nat) (sz : Nat) (ni : Int32) (li : Int32) (mi : Int32) (mv : Int32) (nx : Int32) (al : Int32) (nc : Int32) (nl : Int32) (kb0 : Nat → Int32) (hb0 : Nat → Int32) (on : Int32) (il : Int32) (ba : Int32) (kn : Nat → Int32) (ho : Nat → Int32) (p1 : Int32) : vx_Met l yX7_holder wsX7_holder ({ frames := 7, cells := 1, slots := 6, locals := 102 }) (va_Pc [.ref mh, .int p1] (zI (dC, dI) [(cI, .int), (cJ, .long)] [(mh, .inr (7, [.ref ca, .ref la, .ref sg, .ref pl, .ref rw, .ref tw, .ref ga, .ref pa, .int ni, .int li, .int mi, .int mv, .int nx, .int al, .int nc, .int nl])), (la, .inr (2, [.ref ka, .ref hh])), (ka, .inl (cI, 4, .inl kb0)), (hh, .inl (cI, 4, .inl hb0)), (sg, .inr (5, [.ref lg, .int on, .int il, .int ba])), (lg, .inr (2, [.ref kg, .ref hg])), (kg, .inl (cI, 4, .inl kn)), (hg, .inl (cI, 4, .inl ho))] sz)) (vp_Si (fun r => xX7_holder ni li mi mv nx al nc nl kb0 hb0 on il ba kn ho p1 = 0 ∧ r = rX7_holder ni li mi mv nx al nc nl kb0 hb0 on il ba kn ho p1)) (zX (fun k => xX7_holder ni li mi mv nx al nc nl kb0 hb0 on il ba kn ho p1 = k ∧ k ≠ 0) sz) 1 6 (fun _ => False) := by
  refine vx_ofW (cc := cX7_holder) (maxL := 2) (ret := (some .int)) (by decide) rfl ?_
  intro p e s m args below meth c s₁ B hml hto hv
  obtain ⟨rfl, hsz, hP, hK, hD0, hG⟩ := hv
  have hx := B.exec
  have hb := B.bytes
  have hr := B.returns
  have hts := atoms_spec (ws := wsX7_holder) B.pre
  have hown : s.vm.findClass RX7 = some m.cls := findClass_of_methodNamed B.named
  have hlocks := B.notSynchronized
  subst hsz
  have hD := hD0.self (sz := s.heap.size)
  generalize hAe : va_A [(mh, .inr (7, [.ref ca, .ref la, .ref sg, .ref pl, .ref rw, .ref tw, .ref ga, .ref pa, .int ni, .int li, .int mi, .int mv, .int nx, .int al, .int nc, .int nl])), (la, .inr (2, [.ref ka, .ref hh])), (ka, .inl (cI, 4, .inl kb0)), (hh, .inl (cI, 4, .inl hb0)), (sg, .inr (5, [.ref lg, .int on, .int il, .int ba])), (lg, .inr (2, [.ref kg, .ref hg])), (kg, .inl (cI, 4, .inl kn)), (hg, .inl (cI, 4, .inl ho))] s.heap.size = A at hD hG
  have hA : ∀ q : Nat, s.heap.size ≤ q → A q := fun q h => by rw [← hAe]; exact Or.inr h
  have hS : va_S A s.heap s.heap [] := va_S.rf
  have hP : va_P (dC, dI) vwCl [(mh, .inr (7, [.ref ca, .ref la, .ref sg, .ref pl, .ref rw, .ref tw, .ref ga, .ref pa, .int ni, .int li, .int mi, .int mv, .int nx, .int al, .int nc, .int nl])), (la, .inr (2, [.ref ka, .ref hh])), (ka, .inl (cI, 4, .inl kb0)), (hh, .inl (cI, 4, .inl hb0)), (sg, .inr (5, [.ref lg, .int on, .int il, .int ba])), (lg, .inr (2, [.ref kg, .ref hg])), (kg, .inl (cI, 4, .inl kn)), (hg, .inl (cI, 4, .inl ho))] s.heap := hP
  have hl := lv_entry ([.ref mh, .int p1]) (n := 2) (Nat.le_of_ble_eq_true rfl)
  rw [lg_entry_eq]
  generalize (lg_sl ([.ref mh, .int p1]) ++ List.replicate (2 - (lg_sl ([.ref mh, .int p1])).length) Slot.unset).toArray = ls at hl ⊢
  have hl : lv_has ls 2 [(0, .ref mh), (1, .int p1)] := hl
  refine lv_iload_n hx hb dX7_holder_0 rfl (lv_at hl 1 rfl) ?_
  refine zxSv (px := fun k9 => (xX7_needProp p1) = k9 ∧ k9 ≠ 0) (vx_runS (As := [.int p1]) (rest := []) ⟨hx, hb, hml, hown, hts⟩ (c_X7_needProp l hfl dC dI cI cJ s.heap.size p1 ) (va_cwS 1 hts gX7_holder_X7_needProp rfl rfl rfl (by decide +kernel) ⟨Nat.le_of_ble_eq_true rfl, Nat.le_of_ble_eq_true rfl⟩) (zpS hK hP hD hS hA hG [] (by decide) rfl) rfl rfl hl.1 rfl (lv_room (Nat.le_of_ble_eq_true rfl)) dX7_holder_1 ⟨Nat.le_of_ble_eq_true rfl, Nat.le_of_ble_eq_true rfl⟩) (fun q h => h) hS hA (fun k9 ce q9 H1 locs1 hw_1 hz1 hk1 hS1 hlo hce hcv hcl => ?_) (fun hw_1 => ?_)
  · exact vx_out (mc := 1) (ms := 6) (fun x h => (hto x h).elim) hlocks hce hcv hcl (fun t ht hW => ⟨k9, ⟨(by have hn9 := hw_1.2; rw [← hw_1.1] at hn9; rw [← hw_1.1]; unfold xX7_holder; rw [if_neg hn9]), hw_1.2⟩, rfl, (by rw [ht]; exact hz1), (fun q h9 _ => by rw [ht]; exact hk1 q h9)⟩) (by rw [hlo rfl]; exact fun z h => absurd h List.not_mem_nil) (by decide) (by decide)
  · refine lv_aload_n hx hb dX7_holder_4 rfl (lv_at hl 0 rfl) ?_
    by_cases c_2 : ni = 0
    · refine va_csr (va_Run.run (va_runV (As := []) (rest := []) ⟨hx, hb, hml, hown, hts⟩ (c_X7_loreToAsk_0 l dC dI cI cJ mh sg ca la pl rw tw ga pa lg s.heap.size ni li mi mv nx al nc nl on il ba (by assumption)) (cwV 0 hts gX7_holder_X7_loreToAsk rfl rfl rfl (by decide +kernel) ⟨Nat.le_of_ble_eq_true rfl, Nat.le_of_ble_eq_true rfl⟩) (zpV hK hP hD hS hA hG [0, 4] (by decide) rfl 7 0 rfl rfl) rfl rfl hl.1 rfl (lv_room (Nat.le_of_ble_eq_true rfl)) dX7_holder_5 ⟨Nat.le_of_ble_eq_true rfl, Nat.le_of_ble_eq_true rfl⟩)) (fun r9 _ => ?_)
      refine va_get (D := (dC, dI)) (ci := 2) (v := .ref hh) (C := RX2) (T := TX2) (N := 2) hx hb hts iX7_holder_X2 hown hK hP 1 rfl rfl 1 (by decide) (hts _ kX7_holder_1) (fun _ h9 => h9) rfl dX7_holder_8 ?_
      refine lv_iload_n hx hb dX7_holder_11 rfl (lv_at hl 1 rfl) ?_
      refine va_iald hx hb hK hP 3 0 rfl rfl (i := p1) (zPr (by assumption)) dX7_holder_12 ?_
      exact W.widen (k := 1) (n := 6) (by decide) (by decide) (vx_ret (W.iret (v := (hb0 (p1).toNatClampNeg)) hx hb hr (fun t ht hW => ⟨_, rfl, ⟨(by unfold xX7_holder; rw [if_pos hw_1]), (by unfold rX7_holder; rw [if_pos c_2])⟩, ht⟩) (fun q hq => absurd hq List.not_mem_nil) dX7_holder_13))
    · refine va_csr (va_Run.run (va_runV (As := []) (rest := []) ⟨hx, hb, hml, hown, hts⟩ (c_X7_loreToAsk_1 l dC dI cI cJ mh sg ca la pl rw tw ga pa lg s.heap.size ni li mi mv nx al nc nl on il ba (by assumption)) (cwV 0 hts gX7_holder_X7_loreToAsk rfl rfl rfl (by decide +kernel) ⟨Nat.le_of_ble_eq_true rfl, Nat.le_of_ble_eq_true rfl⟩) (zpV hK hP hD hS hA hG [0, 4] (by decide) rfl 7 0 rfl rfl) rfl rfl hl.1 rfl (lv_room (Nat.le_of_ble_eq_true rfl)) dX7_holder_5 ⟨Nat.le_of_ble_eq_true rfl, Nat.le_of_ble_eq_true rfl⟩)) (fun r9 _ => ?_)
      refine va_get (D := (dC, dI)) (ci := 2) (v := .ref hg) (C := RX2) (T := TX2) (N := 2) hx hb hts iX7_holder_X2 hown hK hP 5 rfl rfl 1 (by decide) (hts _ kX7_holder_1) (fun _ h9 => h9) rfl dX7_holder_8 ?_
      refine lv_iload_n hx hb dX7_holder_11 rfl (lv_at hl 1 rfl) ?_
      refine va_iald hx hb hK hP 7 0 rfl rfl (i := p1) (zPr (by assumption)) dX7_holder_12 ?_
      exact W.widen (k := 1) (n := 6) (by decide) (by decide) (vx_ret (W.iret (v := (ho (p1).toNatClampNeg)) hx hb hr (fun t ht hW => ⟨_, rfl, ⟨(by unfold xX7_holder; rw [if_pos hw_1]), (by unfold rX7_holder; rw [if_neg c_2])⟩, ht⟩) (fun q hq => absurd hq List.not_mem_nil) dX7_holder_13))

/-! X7_count -/
def xX7_count (ni : Int32) (li : Int32) (mi : Int32) (mv : Int32) (nx : Int32) (al : Int32) (nc : Int32) (nl : Int32) (on : Int32) (il : Int32) (ba : Int32) (p1 : Int32) : Nat := (if p1 = (0 : Int32) then 0 else (if p1 = (1 : Int32) then 0 else (if p1 = (2 : Int32) then 0 else (if p1 = (3 : Int32) then 0 else (if p1 = (4 : Int32) then 0 else (if p1 = (5 : Int32) then 0 else 2))))))
def rX7_count (ni : Int32) (li : Int32) (mi : Int32) (mv : Int32) (nx : Int32) (al : Int32) (nc : Int32) (nl : Int32) (on : Int32) (il : Int32) (ba : Int32) (p1 : Int32) : Int32 := (if p1 = (0 : Int32) then mi else (if p1 = (1 : Int32) then al else (if p1 = (2 : Int32) then nc else (if p1 = (3 : Int32) then nl else (if p1 = (4 : Int32) then on else mv)))))
set_option maxRecDepth 20000 in
theorem iX7_count_X7 : ∀ w ∈ u_ws RX7 TX7 16, w ∈ wsX7_count := by decide +kernel
set_option maxRecDepth 20000 in
theorem kX7_count_1 : Cond.fieldLink RX7 151 "MaskHall" "minutes" "I" ∈ wsX7_count := by decide +kernel
set_option maxRecDepth 20000 in
theorem kX7_count_2 : Cond.fieldLink RX7 206 "MaskHall" "allLaughs" "I" ∈ wsX7_count := by decide +kernel
set_option maxRecDepth 20000 in
theorem kX7_count_3 : Cond.fieldLink RX7 237 "MaskHall" "nightsClosed" "I" ∈ wsX7_count := by decide +kernel
set_option maxRecDepth 20000 in
theorem kX7_count_4 : Cond.fieldLink RX7 240 "MaskHall" "nightsLate" "I" ∈ wsX7_count := by decide +kernel
set_option maxRecDepth 20000 in
theorem kX7_count_5 : Cond.fieldLink RX7 26 "MaskHall" "stage" "LMaskHall$Stage;" ∈ wsX7_count := by decide +kernel
set_option maxRecDepth 20000 in
theorem iX7_count_X5 : ∀ w ∈ u_ws RX5 TX5 4, w ∈ wsX7_count := by decide +kernel
set_option maxRecDepth 20000 in
theorem kX7_count_7 : Cond.fieldLink RX7 128 "MaskHall$Stage" "onMasks" "I" ∈ wsX7_count := by decide +kernel
set_option maxRecDepth 20000 in
theorem kX7_count_8 : Cond.fieldLink RX7 154 "MaskHall" "moves" "I" ∈ wsX7_count := by decide +kernel
set_option maxRecDepth 20000 in
theorem tX7_count_247 : ∀ w ∈ (vx_atS RX7 247 "java/lang/IllegalArgumentException" ["java/lang/RuntimeException", "java/lang/Exception"]).filter goodWord, w ∈ wsX7_count := by decide +kernel
set_option maxRecDepth 20000 in
theorem kX7_count_10 : Cond.classLink RX7 243 "java/lang/IllegalArgumentException" ∈ wsX7_count := by decide +kernel
set_option maxRecDepth 20000 in
theorem kX7_count_11 : Cond.initialized "java/lang/IllegalArgumentException" ∈ wsX7_count := by decide +kernel
set_option maxHeartbeats 620000 in
set_option maxRecDepth 100000 in
theorem c_X7_count (l : Launch) (hfl : l.stackTraces = false) (dC : Nat → ClassId) (dI : Nat → Nat → Nat) (cI cJ : ClassId) (mh sg ca la pl rw tw ga pa lg : Nat) (sz : Nat) (ni : Int32) (li : Int32) (mi : Int32) (mv : Int32) (nx : Int32) (al : Int32) (nc : Int32) (nl : Int32) (on : Int32) (il : Int32) (ba : Int32) (p1 : Int32) : vx_Met l yX7_count wsX7_count ({ frames := 6, cells := 1, slots := 6, locals := 82 }) (va_Pc [.ref mh, .int p1] (zI (dC, dI) [(cI, .int), (cJ, .long)] [(mh, .inr (7, [.ref ca, .ref la, .ref sg, .ref pl, .ref rw, .ref tw, .ref ga, .ref pa, .int ni, .int li, .int mi, .int mv, .int nx, .int al, .int nc, .int nl])), (sg, .inr (5, [.ref lg, .int on, .int il, .int ba]))] sz)) (vp_Si (fun r => xX7_count ni li mi mv nx al nc nl on il ba p1 = 0 ∧ r = rX7_count ni li mi mv nx al nc nl on il ba p1)) (zX (fun k => xX7_count ni li mi mv nx al nc nl on il ba p1 = k ∧ k ≠ 0) sz) 1 6 (fun _ => False) := by
  refine vx_ofW (cc := cX7_count) (maxL := 2) (ret := (some .int)) (by decide) rfl ?_
  intro p e s m args below meth c s₁ B hml hto hv
  obtain ⟨rfl, hsz, hP, hK, hD0, hG⟩ := hv
  have hx := B.exec
  have hb := B.bytes
  have hr := B.returns
  have hts := atoms_spec (ws := wsX7_count) B.pre
  have hown : s.vm.findClass RX7 = some m.cls := findClass_of_methodNamed B.named
  have hlocks := B.notSynchronized
  subst hsz
  have hD := hD0.self (sz := s.heap.size)
  generalize hAe : va_A [(mh, .inr (7, [.ref ca, .ref la, .ref sg, .ref pl, .ref rw, .ref tw, .ref ga, .ref pa, .int ni, .int li, .int mi, .int mv, .int nx, .int al, .int nc, .int nl])), (sg, .inr (5, [.ref lg, .int on, .int il, .int ba]))] s.heap.size = A at hD hG
  have hA : ∀ q : Nat, s.heap.size ≤ q → A q := fun q h => by rw [← hAe]; exact Or.inr h
  have hS : va_S A s.heap s.heap [] := va_S.rf
  have hP : va_P (dC, dI) vwCl [(mh, .inr (7, [.ref ca, .ref la, .ref sg, .ref pl, .ref rw, .ref tw, .ref ga, .ref pa, .int ni, .int li, .int mi, .int mv, .int nx, .int al, .int nc, .int nl])), (sg, .inr (5, [.ref lg, .int on, .int il, .int ba]))] s.heap := hP
  have hl := lv_entry ([.ref mh, .int p1]) (n := 2) (Nat.le_of_ble_eq_true rfl)
  rw [lg_entry_eq]
  generalize (lg_sl ([.ref mh, .int p1]) ++ List.replicate (2 - (lg_sl ([.ref mh, .int p1])).length) Slot.unset).toArray = ls at hl ⊢
  have hl : lv_has ls 2 [(0, .ref mh), (1, .int p1)] := hl
  refine lv_iload_n hx hb dX7_count_0 rfl (lv_at hl 1 rfl) ?_
  by_cases c_1 : p1 = (0 : Int32)
  · refine lv_tableIn (off := 39) (tgt := 40) hx hb dX7_count_1 (by rw [c_1]; decide) (by rw [c_1]; decide) (by rw [c_1]; decide) (by decide) ?_
    refine lv_aload_n hx hb dX7_count_40 rfl (lv_at hl 0 rfl) ?_
    refine va_get (D := (dC, dI)) (ci := 7) (v := .int mi) (C := RX7) (T := TX7) (N := 16) hx hb hts iX7_count_X7 hown hK hP 0 rfl rfl 10 (by decide) (hts _ kX7_count_1) (fun _ h9 => h9) rfl dX7_count_41 ?_
    exact W.widen (k := 1) (n := 6) (by decide) (by decide) (vx_ret (W.iret (v := mi) hx hb hr (fun t ht hW => ⟨_, rfl, ⟨(by unfold xX7_count; rw [if_pos c_1]), (by unfold rX7_count; rw [if_pos c_1])⟩, ht⟩) (fun q hq => absurd hq List.not_mem_nil) dX7_count_44))
  · by_cases c_2 : p1 = (1 : Int32)
    · refine lv_tableIn (off := 44) (tgt := 45) hx hb dX7_count_1 (by rw [c_2]; decide) (by rw [c_2]; decide) (by rw [c_2]; decide) (by decide) ?_
      refine lv_aload_n hx hb dX7_count_45 rfl (lv_at hl 0 rfl) ?_
      refine va_get (D := (dC, dI)) (ci := 7) (v := .int al) (C := RX7) (T := TX7) (N := 16) hx hb hts iX7_count_X7 hown hK hP 0 rfl rfl 13 (by decide) (hts _ kX7_count_2) (fun _ h9 => h9) rfl dX7_count_46 ?_
      exact W.widen (k := 1) (n := 6) (by decide) (by decide) (vx_ret (W.iret (v := al) hx hb hr (fun t ht hW => ⟨_, rfl, ⟨(by unfold xX7_count; rw [if_neg c_1, if_pos c_2]), (by unfold rX7_count; rw [if_neg c_1, if_pos c_2])⟩, ht⟩) (fun q hq => absurd hq List.not_mem_nil) dX7_count_49))
    · by_cases c_3 : p1 = (2 : Int32)
      · refine lv_tableIn (off := 49) (tgt := 50) hx hb dX7_count_1 (by rw [c_3]; decide) (by rw [c_3]; decide) (by rw [c_3]; decide) (by decide) ?_
        refine lv_aload_n hx hb dX7_count_50 rfl (lv_at hl 0 rfl) ?_
        refine va_get (D := (dC, dI)) (ci := 7) (v := .int nc) (C := RX7) (T := TX7) (N := 16) hx hb hts iX7_count_X7 hown hK hP 0 rfl rfl 14 (by decide) (hts _ kX7_count_3) (fun _ h9 => h9) rfl dX7_count_51 ?_
        exact W.widen (k := 1) (n := 6) (by decide) (by decide) (vx_ret (W.iret (v := nc) hx hb hr (fun t ht hW => ⟨_, rfl, ⟨(by unfold xX7_count; rw [if_neg c_1, if_neg c_2, if_pos c_3]), (by unfold rX7_count; rw [if_neg c_1, if_neg c_2, if_pos c_3])⟩, ht⟩) (fun q hq => absurd hq List.not_mem_nil) dX7_count_54))
      · by_cases c_4 : p1 = (3 : Int32)
        · refine lv_tableIn (off := 54) (tgt := 55) hx hb dX7_count_1 (by rw [c_4]; decide) (by rw [c_4]; decide) (by rw [c_4]; decide) (by decide) ?_
          refine lv_aload_n hx hb dX7_count_55 rfl (lv_at hl 0 rfl) ?_
          refine va_get (D := (dC, dI)) (ci := 7) (v := .int nl) (C := RX7) (T := TX7) (N := 16) hx hb hts iX7_count_X7 hown hK hP 0 rfl rfl 15 (by decide) (hts _ kX7_count_4) (fun _ h9 => h9) rfl dX7_count_56 ?_
          exact W.widen (k := 1) (n := 6) (by decide) (by decide) (vx_ret (W.iret (v := nl) hx hb hr (fun t ht hW => ⟨_, rfl, ⟨(by unfold xX7_count; rw [if_neg c_1, if_neg c_2, if_neg c_3, if_pos c_4]), (by unfold rX7_count; rw [if_neg c_1, if_neg c_2, if_neg c_3, if_pos c_4])⟩, ht⟩) (fun q hq => absurd hq List.not_mem_nil) dX7_count_59))
        · by_cases c_5 : p1 = (4 : Int32)
          · refine lv_tableIn (off := 59) (tgt := 60) hx hb dX7_count_1 (by rw [c_5]; decide) (by rw [c_5]; decide) (by rw [c_5]; decide) (by decide) ?_
            refine lv_aload_n hx hb dX7_count_60 rfl (lv_at hl 0 rfl) ?_
            refine va_get (D := (dC, dI)) (ci := 7) (v := .ref sg) (C := RX7) (T := TX7) (N := 16) hx hb hts iX7_count_X7 hown hK hP 0 rfl rfl 2 (by decide) (hts _ kX7_count_5) (fun _ h9 => h9) rfl dX7_count_61 ?_
            refine va_get (D := (dC, dI)) (ci := 5) (v := .int on) (C := RX5) (T := TX5) (N := 4) hx hb hts iX7_count_X5 hown hK hP 1 rfl rfl 1 (by decide) (hts _ kX7_count_7) (fun _ h9 => h9) rfl dX7_count_64 ?_
            exact W.widen (k := 1) (n := 6) (by decide) (by decide) (vx_ret (W.iret (v := on) hx hb hr (fun t ht hW => ⟨_, rfl, ⟨(by unfold xX7_count; rw [if_neg c_1, if_neg c_2, if_neg c_3, if_neg c_4, if_pos c_5]), (by unfold rX7_count; rw [if_neg c_1, if_neg c_2, if_neg c_3, if_neg c_4, if_pos c_5])⟩, ht⟩) (fun q hq => absurd hq List.not_mem_nil) dX7_count_67))
          · by_cases c_6 : p1 = (5 : Int32)
            · refine lv_tableIn (off := 67) (tgt := 68) hx hb dX7_count_1 (by rw [c_6]; decide) (by rw [c_6]; decide) (by rw [c_6]; decide) (by decide) ?_
              refine lv_aload_n hx hb dX7_count_68 rfl (lv_at hl 0 rfl) ?_
              refine va_get (D := (dC, dI)) (ci := 7) (v := .int mv) (C := RX7) (T := TX7) (N := 16) hx hb hts iX7_count_X7 hown hK hP 0 rfl rfl 11 (by decide) (hts _ kX7_count_8) (fun _ h9 => h9) rfl dX7_count_69 ?_
              exact W.widen (k := 1) (n := 6) (by decide) (by decide) (vx_ret (W.iret (v := mv) hx hb hr (fun t ht hW => ⟨_, rfl, ⟨(by unfold xX7_count; rw [if_neg c_1, if_neg c_2, if_neg c_3, if_neg c_4, if_neg c_5, if_pos c_6]), (by unfold rX7_count; rw [if_neg c_1, if_neg c_2, if_neg c_3, if_neg c_4, if_neg c_5])⟩, ht⟩) (fun q hq => absurd hq List.not_mem_nil) dX7_count_72))
            · refine lv_tableOut (tgt := 73) hx hb dX7_count_1 (zOut0_5 c_1 c_2 c_3 c_4 c_5 c_6) (by decide) ?_
              obtain ⟨sa, hstr⟩ := hG.1.2.1 _ (List.mem_of_getElem? (i := 17) rfl)
              exact vx_throwS (names := ["java/lang/RuntimeException", "java/lang/Exception"]) (cls := "java/lang/IllegalArgumentException") (sa := sa) hx hb hfl hown (by decide) (by decide) (hts _ kX7_count_10) (hts _ kX7_count_11) hstr (zHat2_247 hG.1 (fun w h => hts w (tX7_count_247 w h))) zGood2_247_243 hG.2.1.1 hG.2.1.2 hS (hl.1.trans hml.symm) dX7_count_73 dX7_count_76 dX7_count_77 dX7_count_79 dX7_count_82 (fun x h => (hto x h).elim) (Nat.le_of_ble_eq_true rfl) (Nat.le_of_ble_eq_true rfl) (Nat.le_of_ble_eq_true rfl) (Nat.le_of_ble_eq_true rfl) hlocks (fun t hW hz1 hk1 => ⟨2, ⟨(by unfold xX7_count; rw [if_neg c_1, if_neg c_2, if_neg c_3, if_neg c_4, if_neg c_5, if_neg c_6]), by decide⟩, rfl, hz1, fun q h9 _ => hk1 q h9⟩) (fun z h => absurd h List.not_mem_nil) (by decide) (by decide)
