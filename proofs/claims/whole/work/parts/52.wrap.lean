/-! L_share -/
def rL_share (ni : Int32) (li : Int32) (mi : Int32) (mv : Int32) (nx : Int32) (al : Int32) (nc : Int32) (nl : Int32) (pt : Nat → Int32) (fo : Nat → UInt64) (p1 : Int32) : Int32 := (if (xX7_share ni li mi mv nx al nc nl pt p1) = 0 then (0 : Int32) else (1 : Int32))
def oL_share_fo (ni : Int32) (li : Int32) (mi : Int32) (mv : Int32) (nx : Int32) (al : Int32) (nc : Int32) (nl : Int32) (pt : Nat → Int32) (fo : Nat → UInt64) (p1 : Int32) : Nat → UInt64 := (if (xX7_share ni li mi mv nx al nc nl pt p1) = 0 then (vf_upd fo ((0 : Int32)).toNatClampNeg (rX7_share ni li mi mv nx al nc nl pt p1)) else fo)
set_option maxRecDepth 20000 in
theorem kL_share_0 : Cond.classLink RL 13 "java/lang/IndexOutOfBoundsException" ∈ wsL_share := by decide +kernel
set_option maxHeartbeats 460000 in
set_option maxRecDepth 100000 in
theorem c_L_share (l : Launch) (hfl : l.stackTraces = false) (dC : Nat → ClassId) (dI : Nat → Nat → Nat) (cI cJ cD : ClassId) (mh pa ao ca la sg pl rw tw ga : Nat) (sz : Nat) (ni : Int32) (li : Int32) (mi : Int32) (mv : Int32) (nx : Int32) (al : Int32) (nc : Int32) (nl : Int32) (pt : Nat → Int32) (fo : Nat → UInt64) (p1 : Int32) : Met l yL_share wsL_share ({ frames := 8, cells := 1, slots := 6, locals := 125 }) (va_Pc [.ref mh, .int p1, .ref ao] (zI (dC, dI) [(cI, .int), (cJ, .long), (cD, .double)] [(mh, .inr (7, [.ref ca, .ref la, .ref sg, .ref pl, .ref rw, .ref tw, .ref ga, .ref pa, .int ni, .int li, .int mi, .int mv, .int nx, .int al, .int nc, .int nl])), (pa, .inl (cI, 6, .inl pt)), (ao, .inl (cD, 1, .inr (.inr (.inr (.inl fo)))))] sz)) (va_Qi (fun (r : Int32) (u : (Nat → UInt64)) => r = rL_share ni li mi mv nx al nc nl pt fo p1 ∧ u = oL_share_fo ni li mi mv nx al nc nl pt fo p1) (fun u => zO (dC, dI) [(cI, .int), (cJ, .long), (cD, .double)] [(mh, .inr (7, [.ref ca, .ref la, .ref sg, .ref pl, .ref rw, .ref tw, .ref ga, .ref pa, .int ni, .int li, .int mi, .int mv, .int nx, .int al, .int nc, .int nl])), (pa, .inl (cI, 6, .inl pt)), (ao, .inl (cD, 1, .inr (.inr (.inr (.inl u)))))] (va_A [(mh, .inr (7, [.ref ca, .ref la, .ref sg, .ref pl, .ref rw, .ref tw, .ref ga, .ref pa, .int ni, .int li, .int mi, .int mv, .int nx, .int al, .int nc, .int nl])), (pa, .inl (cI, 6, .inl pt)), (ao, .inl (cD, 1, .inr (.inr (.inr (.inl fo)))))] sz)) (va_A [(mh, .inr (7, [.ref ca, .ref la, .ref sg, .ref pl, .ref rw, .ref tw, .ref ga, .ref pa, .int ni, .int li, .int mi, .int mv, .int nx, .int al, .int nc, .int nl])), (pa, .inl (cI, 6, .inl pt)), (ao, .inl (cD, 1, .inr (.inr (.inr (.inl fo)))))] sz)) 1 6 (va_A [(mh, .inr (7, [.ref ca, .ref la, .ref sg, .ref pl, .ref rw, .ref tw, .ref ga, .ref pa, .int ni, .int li, .int mi, .int mv, .int nx, .int al, .int nc, .int nl])), (pa, .inl (cI, 6, .inl pt)), (ao, .inl (cD, 1, .inr (.inr (.inr (.inl fo)))))] sz) := by
  refine va_MetW (cc := cL_share) (maxL := 4) (ret := (some .int)) (by decide) rfl ?_
  intro p e s m args below meth c s₁ B hml hv
  obtain ⟨rfl, hsz, hP, hK, hD0, hG⟩ := hv
  have hx := B.exec
  have hb := B.bytes
  have hr := B.returns
  have hts := atoms_spec (ws := wsL_share) B.pre
  have hown : s.vm.findClass RL = some m.cls := findClass_of_methodNamed B.named
  have hlocks := B.notSynchronized
  have htab := vx_table (x := yL_share) (y := yL_share) B (hts _ List.mem_cons_self)
  subst hsz
  have hD := hD0.self (sz := s.heap.size)
  generalize hAe : va_A [(mh, .inr (7, [.ref ca, .ref la, .ref sg, .ref pl, .ref rw, .ref tw, .ref ga, .ref pa, .int ni, .int li, .int mi, .int mv, .int nx, .int al, .int nc, .int nl])), (pa, .inl (cI, 6, .inl pt)), (ao, .inl (cD, 1, .inr (.inr (.inr (.inl fo)))))] s.heap.size = A at hD hG ⊢
  have hA : ∀ q : Nat, s.heap.size ≤ q → A q := fun q h => by rw [← hAe]; exact Or.inr h
  have hS : va_S A s.heap s.heap [] := va_S.rf
  have hP : va_P (dC, dI) vwCl [(mh, .inr (7, [.ref ca, .ref la, .ref sg, .ref pl, .ref rw, .ref tw, .ref ga, .ref pa, .int ni, .int li, .int mi, .int mv, .int nx, .int al, .int nc, .int nl])), (pa, .inl (cI, 6, .inl pt)), (ao, .inl (cD, 1, .inr (.inr (.inr (.inl fo)))))] s.heap := hP
  have hl := lv_entry ([.ref mh, .int p1, .ref ao]) (n := 4) (Nat.le_of_ble_eq_true rfl)
  rw [lg_entry_eq]
  generalize (lg_sl ([.ref mh, .int p1, .ref ao]) ++ List.replicate (4 - (lg_sl ([.ref mh, .int p1, .ref ao])).length) Slot.unset).toArray = ls at hl ⊢
  have hl : lv_has ls 4 [(0, .ref mh), (1, .int p1), (2, .ref ao)] := hl
  refine lv_aload_n hx hb dL_share_0 rfl (lv_at hl 2 rfl) ?_
  refine lv_iconst (v := 0) hx hb dL_share_1 (by decide) ?_
  refine lv_aload_n hx hb dL_share_2 rfl (lv_at hl 0 rfl) ?_
  refine lv_iload_n hx hb dL_share_3 rfl (lv_at hl 1 rfl) ?_
  refine zxRd (px := fun k9 => (xX7_share ni li mi mv nx al nc nl pt p1) = k9 ∧ k9 ≠ 0) (P0 := (xX7_share ni li mi mv nx al nc nl pt p1) = 0) (r0 := (rX7_share ni li mi mv nx al nc nl pt p1)) (vx_runV (As := [.int p1]) (rest := [.int (0 : Int32), .ref ao]) ⟨hx, hb, hml, hown, hts⟩ (c_X7_share l hfl dC dI cI cJ mh pa ca la sg pl rw tw ga s.heap.size ni li mi mv nx al nc nl pt p1 ) (cwV 1 hts gL_share_X7_share rfl rfl rfl (by decide +kernel) ⟨Nat.le_of_ble_eq_true rfl, Nat.le_of_ble_eq_true rfl⟩) (zpV (va_K.sub hK [0, 1] rfl) hP hD hS hA hG [0, 1] (by decide) rfl 7 0 rfl rfl) rfl rfl hl.1 rfl (lv_room (Nat.le_of_ble_eq_true rfl)) dL_share_4 ⟨Nat.le_of_ble_eq_true rfl, Nat.le_of_ble_eq_true rfl⟩) hP hS hA (fun k9 ce q9 H locs hw_1 hP hS hce hcv hcl => ?_) (fun c_2 => ?_)
  · have hk9 : k9 = 1 := by have h := bxX7_share ni li mi mv nx al nc nl pt p1; omega
    subst hk9
    have c_2 : ¬ (xX7_share ni li mi mv nx al nc nl pt p1) = 0 := by rw [hw_1.1]; decide
    have c_3 : (xX7_share ni li mi mv nx al nc nl pt p1) = 1 := hw_1.1
    refine vx_catch (name := zXn 1) hown [] ⟨0, 8, 11, 13⟩ [] htab (fun z hz => by cases hz) (by decide) (by decide) (hts _ kL_share_0) (va_Nw.use rfl (hG.1.2.2.2.1 1)) hce hcv hcl ?_
    refine lv_astore_n (lv' := [(3, .ref q9), (0, .ref mh), (1, .int p1), (2, .ref ao)]) hx hb dL_share_11 rfl hl (by decide) rfl (fun ls hl => ?_)
    refine lv_iconst (v := 1) hx hb dL_share_12 (by decide) ?_
    refine W.widen (k := 1) (n := 6) (by decide) (by decide) ?_
    exact W.iret (v := (1 : Int32)) hx hb hr (fun t ht hW => ⟨⟨(1 : Int32), (fo), rfl, ⟨(by unfold rL_share; rw [if_neg c_2]), (by unfold oL_share_fo; rw [if_neg c_2])⟩, (by (try dsimp only); rw [ht]; exact hP.sub [0, 1, 2] rfl), va_K.moved hW.alike hK, (by (try dsimp only); exact hD.sub [0, 1, 2] (by decide) rfl)⟩, hS.F ht⟩) hS.2.2 dL_share_13
  · skip
    refine va_dast hx hb hK hP hD hS 2 2 rfl rfl (i := (0 : Int32)) (x := (rX7_share ni li mi mv nx al nc nl pt p1)) (by unfold vp_in; decide) dL_share_7 (fun H locs hP hD hS => ?_)
    have hP : va_P (dC, dI) vwCl [(mh, .inr (7, [.ref ca, .ref la, .ref sg, .ref pl, .ref rw, .ref tw, .ref ga, .ref pa, .int ni, .int li, .int mi, .int mv, .int nx, .int al, .int nc, .int nl])), (pa, .inl (cI, 6, .inl pt)), (ao, .inl (cD, 1, .inr (.inr (.inr (.inl (vf_upd fo ((0 : Int32)).toNatClampNeg (rX7_share ni li mi mv nx al nc nl pt p1)))))))] H := hP
    have hD : va_D A [(mh, .inr (7, [.ref ca, .ref la, .ref sg, .ref pl, .ref rw, .ref tw, .ref ga, .ref pa, .int ni, .int li, .int mi, .int mv, .int nx, .int al, .int nc, .int nl])), (pa, .inl (cI, 6, .inl pt)), (ao, .inl (cD, 1, .inr (.inr (.inr (.inl (vf_upd fo ((0 : Int32)).toNatClampNeg (rX7_share ni li mi mv nx al nc nl pt p1)))))))] := hD
    refine lv_goto (tgt := 14) hx hb dL_share_8 (by decide) ?_
    refine lv_iconst (v := 0) hx hb dL_share_14 (by decide) ?_
    refine W.widen (k := 1) (n := 6) (by decide) (by decide) ?_
    exact W.iret (v := (0 : Int32)) hx hb hr (fun t ht hW => ⟨⟨(0 : Int32), ((vf_upd fo ((0 : Int32)).toNatClampNeg (rX7_share ni li mi mv nx al nc nl pt p1))), rfl, ⟨(by unfold rL_share; rw [if_pos c_2]), (by unfold oL_share_fo; rw [if_pos c_2])⟩, (by (try dsimp only); rw [ht]; exact hP.sub [0, 1, 2] rfl), va_K.moved hW.alike hK, (by (try dsimp only); exact hD.sub [0, 1, 2] (by decide) rfl)⟩, hS.F ht⟩) hS.2.2 dL_share_15
