/-! L_does -/
def jL_does_0_18_0 (ni : Int32) (li : Int32) (mi : Int32) (mv : Int32) (nx : Int32) (al : Int32) (nc : Int32) (nl : Int32) (kb0 : Nat → Int32) (hb0 : Nat → Int32) (p1 : Int32) (p2 : Int32) (p3 : Int32) (p4 : Int32) : Int32 := (if p3 = (1 : Int32) then (1 : Int32) else (0 : Int32))
theorem bjL_does_0_18_0 (ni : Int32) (li : Int32) (mi : Int32) (mv : Int32) (nx : Int32) (al : Int32) (nc : Int32) (nl : Int32) (kb0 : Nat → Int32) (hb0 : Nat → Int32) (p1 : Int32) (p2 : Int32) (p3 : Int32) (p4 : Int32) : jL_does_0_18_0 ni li mi mv nx al nc nl kb0 hb0 p1 p2 p3 p4 = 0 ∨ jL_does_0_18_0 ni li mi mv nx al nc nl kb0 hb0 p1 p2 p3 p4 = 1 := by
  unfold jL_does_0_18_0
  repeat' split
  all_goals first | exact Or.inl rfl | exact Or.inr rfl
def rL_does_0 (ni : Int32) (li : Int32) (mi : Int32) (mv : Int32) (nx : Int32) (al : Int32) (nc : Int32) (nl : Int32) (kb0 : Nat → Int32) (hb0 : Nat → Int32) (p1 : Int32) (p2 : Int32) (p3 : Int32) (p4 : Int32) : Int32 := (if (xX7_knows ni li mi mv nx al nc nl kb0 hb0 p1 p2 (jL_does_0_18_0 ni li mi mv nx al nc nl kb0 hb0 p1 p2 p3 p4)) = 0 then (if (rX7_knows ni li mi mv nx al nc nl kb0 hb0 p1 p2 (jL_does_0_18_0 ni li mi mv nx al nc nl kb0 hb0 p1 p2 p3 p4)) = 0 then (0 : Int32) else (1 : Int32)) else (-3000000 : Int32))
def oL_does_0_kb0 (ni : Int32) (li : Int32) (mi : Int32) (mv : Int32) (nx : Int32) (al : Int32) (nc : Int32) (nl : Int32) (kb0 : Nat → Int32) (hb0 : Nat → Int32) (p1 : Int32) (p2 : Int32) (p3 : Int32) (p4 : Int32) : Nat → Int32 := (if (xX7_knows ni li mi mv nx al nc nl kb0 hb0 p1 p2 (jL_does_0_18_0 ni li mi mv nx al nc nl kb0 hb0 p1 p2 p3 p4)) = 0 then (oX7_knows_kb0 ni li mi mv nx al nc nl kb0 hb0 p1 p2 (jL_does_0_18_0 ni li mi mv nx al nc nl kb0 hb0 p1 p2 p3 p4)) else kb0)
set_option maxRecDepth 20000 in
theorem kL_does_0_0 : Cond.classLink RL 82 "java/lang/IndexOutOfBoundsException" ∈ wsL_does := by decide +kernel
set_option maxRecDepth 20000 in
theorem kL_does_0_1 : Cond.constant RL 84 (-3000000) ∈ wsL_does := by decide +kernel
set_option maxHeartbeats 680000 in
set_option maxRecDepth 100000 in
theorem c_L_does_0 (l : Launch) (hfl : l.stackTraces = false) (dC : Nat → ClassId) (dI : Nat → Nat → Nat) (cI cJ : ClassId) (mh la ka hh ca sg pl rw tw ga pa : Nat) (sz : Nat) (ni : Int32) (li : Int32) (mi : Int32) (mv : Int32) (nx : Int32) (al : Int32) (nc : Int32) (nl : Int32) (kb0 : Nat → Int32) (hb0 : Nat → Int32) (p1 : Int32) (p2 : Int32) (p3 : Int32) (p4 : Int32) : Met l yL_does wsL_does ({ frames := 8, cells := 1, slots := 6, locals := 126 }) (va_Pc [.ref mh, .int (0 : Int32), .int p1, .int p2, .int p3, .int p4] (zI (dC, dI) [(cI, .int), (cJ, .long)] [(mh, .inr (7, [.ref ca, .ref la, .ref sg, .ref pl, .ref rw, .ref tw, .ref ga, .ref pa, .int ni, .int li, .int mi, .int mv, .int nx, .int al, .int nc, .int nl])), (la, .inr (2, [.ref ka, .ref hh])), (ka, .inl (cI, 4, .inl kb0)), (hh, .inl (cI, 4, .inl hb0))] sz)) (va_Qi (fun (r : Int32) (u : (Nat → Int32)) => r = rL_does_0 ni li mi mv nx al nc nl kb0 hb0 p1 p2 p3 p4 ∧ u = oL_does_0_kb0 ni li mi mv nx al nc nl kb0 hb0 p1 p2 p3 p4) (fun u => zO (dC, dI) [(cI, .int), (cJ, .long)] [(mh, .inr (7, [.ref ca, .ref la, .ref sg, .ref pl, .ref rw, .ref tw, .ref ga, .ref pa, .int ni, .int li, .int mi, .int mv, .int nx, .int al, .int nc, .int nl])), (la, .inr (2, [.ref ka, .ref hh])), (ka, .inl (cI, 4, .inl u)), (hh, .inl (cI, 4, .inl hb0))] (va_A [(mh, .inr (7, [.ref ca, .ref la, .ref sg, .ref pl, .ref rw, .ref tw, .ref ga, .ref pa, .int ni, .int li, .int mi, .int mv, .int nx, .int al, .int nc, .int nl])), (la, .inr (2, [.ref ka, .ref hh])), (ka, .inl (cI, 4, .inl kb0)), (hh, .inl (cI, 4, .inl hb0))] sz)) (va_A [(mh, .inr (7, [.ref ca, .ref la, .ref sg, .ref pl, .ref rw, .ref tw, .ref ga, .ref pa, .int ni, .int li, .int mi, .int mv, .int nx, .int al, .int nc, .int nl])), (la, .inr (2, [.ref ka, .ref hh])), (ka, .inl (cI, 4, .inl kb0)), (hh, .inl (cI, 4, .inl hb0))] sz)) 1 6 (va_A [(mh, .inr (7, [.ref ca, .ref la, .ref sg, .ref pl, .ref rw, .ref tw, .ref ga, .ref pa, .int ni, .int li, .int mi, .int mv, .int nx, .int al, .int nc, .int nl])), (la, .inr (2, [.ref ka, .ref hh])), (ka, .inl (cI, 4, .inl kb0)), (hh, .inl (cI, 4, .inl hb0))] sz) := by
  refine va_MetW (cc := cL_does) (maxL := 7) (ret := (some .int)) (by decide) rfl ?_
  intro p e s m args below meth c s₁ B hml hv
  obtain ⟨rfl, hsz, hP, hK, hD0, hG⟩ := hv
  have hx := B.exec
  have hb := B.bytes
  have hr := B.returns
  have hts := atoms_spec (ws := wsL_does) B.pre
  have hown : s.vm.findClass RL = some m.cls := findClass_of_methodNamed B.named
  have hlocks := B.notSynchronized
  have htab := vx_table (x := yL_does) (y := yL_does) B (hts _ List.mem_cons_self)
  subst hsz
  have hD := hD0.self (sz := s.heap.size)
  generalize hAe : va_A [(mh, .inr (7, [.ref ca, .ref la, .ref sg, .ref pl, .ref rw, .ref tw, .ref ga, .ref pa, .int ni, .int li, .int mi, .int mv, .int nx, .int al, .int nc, .int nl])), (la, .inr (2, [.ref ka, .ref hh])), (ka, .inl (cI, 4, .inl kb0)), (hh, .inl (cI, 4, .inl hb0))] s.heap.size = A at hD hG ⊢
  have hA : ∀ q : Nat, s.heap.size ≤ q → A q := fun q h => by rw [← hAe]; exact Or.inr h
  have hS : va_S A s.heap s.heap [] := va_S.rf
  have hP : va_P (dC, dI) vwCl [(mh, .inr (7, [.ref ca, .ref la, .ref sg, .ref pl, .ref rw, .ref tw, .ref ga, .ref pa, .int ni, .int li, .int mi, .int mv, .int nx, .int al, .int nc, .int nl])), (la, .inr (2, [.ref ka, .ref hh])), (ka, .inl (cI, 4, .inl kb0)), (hh, .inl (cI, 4, .inl hb0))] s.heap := hP
  have hl := lv_entry ([.ref mh, .int (0 : Int32), .int p1, .int p2, .int p3, .int p4]) (n := 7) (Nat.le_of_ble_eq_true rfl)
  rw [lg_entry_eq]
  generalize (lg_sl ([.ref mh, .int (0 : Int32), .int p1, .int p2, .int p3, .int p4]) ++ List.replicate (7 - (lg_sl ([.ref mh, .int (0 : Int32), .int p1, .int p2, .int p3, .int p4])).length) Slot.unset).toArray = ls at hl ⊢
  have hl : lv_has ls 7 [(0, .ref mh), (1, .int (0 : Int32)), (2, .int p1), (3, .int p2), (4, .int p3), (5, .int p4)] := hl
  refine lv_iload_n hx hb dL_does_0 rfl (lv_at hl 1 rfl) ?_
  refine lv_if_ne (tgt := 32) hx hb dL_does_1 (by decide) (fun c_1 => ?_) (fun c_1 => ?_)
  · exact absurd (show (0 : Int32) = 0 from by decide) c_1
  · refine lv_aload_n hx hb dL_does_4 rfl (lv_at hl 0 rfl) ?_
    refine lv_iload_n hx hb dL_does_5 rfl (lv_at hl 2 rfl) ?_
    refine lv_iload_n hx hb dL_does_6 rfl (lv_at hl 3 rfl) ?_
    refine lv_iload hx hb dL_does_7 (lv_at hl 4 rfl) ?_
    refine lv_iconst (v := 1) hx hb dL_does_9 (by decide) ?_
    refine zNm (fun R9 Q9 hR9 hQ9 => ?_)
    have J18 : ∀ (v18_0 : Int32), v18_0 = (jL_does_0_18_0 ni li mi mv nx al nc nl kb0 hb0 p1 p2 p3 p4) → ∀ (ls : Array Slot), lv_has ls 7 [(0, .ref mh), (1, .int (0 : Int32)), (2, .int p1), (3, .int p2), (4, .int p3), (5, .int p4)] → W p l e R9 s m ([.ref mh, .int (0 : Int32), .int p1, .int p2, .int p3, .int p4] : List Value).toArray below meth c s.heap [] 0 0 Q9 (F0 m 18 ls [.int v18_0, .int p2, .int p1, .ref mh]) := by
      subst hR9; subst hQ9
      intro v18_0 hvv18_0
      rw [hvv18_0]; clear hvv18_0 v18_0
      intro ls hl
      refine zxI (wr := []) (px := fun k9 => (xX7_knows ni li mi mv nx al nc nl kb0 hb0 p1 p2 (jL_does_0_18_0 ni li mi mv nx al nc nl kb0 hb0 p1 p2 p3 p4)) = k9 ∧ k9 ≠ 0) (P0 := (xX7_knows ni li mi mv nx al nc nl kb0 hb0 p1 p2 (jL_does_0_18_0 ni li mi mv nx al nc nl kb0 hb0 p1 p2 p3 p4)) = 0) (r0 := (rX7_knows ni li mi mv nx al nc nl kb0 hb0 p1 p2 (jL_does_0_18_0 ni li mi mv nx al nc nl kb0 hb0 p1 p2 p3 p4))) (u0 := ((oX7_knows_kb0 ni li mi mv nx al nc nl kb0 hb0 p1 p2 (jL_does_0_18_0 ni li mi mv nx al nc nl kb0 hb0 p1 p2 p3 p4)))) (vx_runV (As := [.int p1, .int p2, .int (jL_does_0_18_0 ni li mi mv nx al nc nl kb0 hb0 p1 p2 p3 p4)]) (rest := []) ⟨hx, hb, hml, hown, hts⟩ (c_X7_knows l hfl dC dI cI cJ mh la ka hh ca sg pl rw tw ga pa s.heap.size ni li mi mv nx al nc nl kb0 hb0 p1 p2 (jL_does_0_18_0 ni li mi mv nx al nc nl kb0 hb0 p1 p2 p3 p4) ) (cwV 3 hts gL_does_X7_knows rfl rfl rfl (by decide +kernel) ⟨Nat.le_of_ble_eq_true rfl, Nat.le_of_ble_eq_true rfl⟩) (zpV hK hP hD hS hA hG [0, 1, 2, 3] (by decide) rfl 7 0 rfl rfl) rfl rfl hl.1 rfl (lv_room (Nat.le_of_ble_eq_true rfl)) dL_does_18 ⟨Nat.le_of_ble_eq_true rfl, Nat.le_of_ble_eq_true rfl⟩) (fun r u h => ⟨h.1, h.2.1, h.2.2⟩) hP hD hS hA [0, 1, 2, 3] [] rfl rfl (by decide) (by decide) (fun k9 ce q9 H locs hw_2 hP hS hce hcv hcl => ?_) (fun H locs c_3 hP hD hS => ?_)
      · have hk9 : k9 = 1 := by have h := bxX7_knows ni li mi mv nx al nc nl kb0 hb0 p1 p2 (jL_does_0_18_0 ni li mi mv nx al nc nl kb0 hb0 p1 p2 p3 p4); omega
        subst hk9
        have c_3 : ¬ (xX7_knows ni li mi mv nx al nc nl kb0 hb0 p1 p2 (jL_does_0_18_0 ni li mi mv nx al nc nl kb0 hb0 p1 p2 p3 p4)) = 0 := by rw [hw_2.1]; decide
        have c_4 : (xX7_knows ni li mi mv nx al nc nl kb0 hb0 p1 p2 (jL_does_0_18_0 ni li mi mv nx al nc nl kb0 hb0 p1 p2 p3 p4)) = 1 := hw_2.1
        refine vx_catch (name := zXn 1) hown [] ⟨0, 326, 327, 82⟩ [⟨0, 326, 332, 85⟩, ⟨0, 326, 337, 88⟩] htab (fun z hz => by cases hz) (by decide) (by decide) (hts _ kL_does_0_0) (va_Nw.use rfl (hG.1.2.2.2.1 1)) hce hcv hcl ?_
        refine lv_astore (lv' := [(6, .ref q9), (0, .ref mh), (1, .int (0 : Int32)), (2, .int p1), (3, .int p2), (4, .int p3), (5, .int p4)]) hx hb dL_does_327 hl (by decide) rfl (fun ls hl => ?_)
        refine lv_ldc (v := -3000000) hx hb hown (hts _ kL_does_0_1) dL_does_329 ?_
        refine W.widen (k := 1) (n := 6) (by decide) (by decide) ?_
        exact W.iret (v := (-3000000 : Int32)) hx hb hr (fun t ht hW => ⟨⟨(-3000000 : Int32), (kb0), rfl, ⟨(by unfold rL_does_0; rw [if_neg c_3]), (by unfold oL_does_0_kb0; rw [if_neg c_3])⟩, (by rw [ht]; exact hP.sub [0, 1, 2, 3] rfl), va_K.moved hW.alike hK, hD.sub [0, 1, 2, 3] (by decide) rfl⟩, hS.F ht⟩) hS.2.2 dL_does_331
      · try dsimp only [List.cons_append, List.nil_append] at hP hD
        have hP : va_P (dC, dI) vwCl [(mh, .inr (7, [.ref ca, .ref la, .ref sg, .ref pl, .ref rw, .ref tw, .ref ga, .ref pa, .int ni, .int li, .int mi, .int mv, .int nx, .int al, .int nc, .int nl])), (la, .inr (2, [.ref ka, .ref hh])), (ka, .inl (cI, 4, .inl (oX7_knows_kb0 ni li mi mv nx al nc nl kb0 hb0 p1 p2 (jL_does_0_18_0 ni li mi mv nx al nc nl kb0 hb0 p1 p2 p3 p4)))), (hh, .inl (cI, 4, .inl hb0))] H := hP
        have hD : va_D A [(mh, .inr (7, [.ref ca, .ref la, .ref sg, .ref pl, .ref rw, .ref tw, .ref ga, .ref pa, .int ni, .int li, .int mi, .int mv, .int nx, .int al, .int nc, .int nl])), (la, .inr (2, [.ref ka, .ref hh])), (ka, .inl (cI, 4, .inl (oX7_knows_kb0 ni li mi mv nx al nc nl kb0 hb0 p1 p2 (jL_does_0_18_0 ni li mi mv nx al nc nl kb0 hb0 p1 p2 p3 p4)))), (hh, .inl (cI, 4, .inl hb0))] := hD
        refine lv_if_eq (tgt := 28) hx hb dL_does_21 (by decide) (fun c_5 => ?_) (fun c_5 => ?_)
        · refine lv_iconst (v := 0) hx hb dL_does_28 (by decide) ?_
          refine lv_goto (tgt := 326) hx hb dL_does_29 (by decide) ?_
          refine W.widen (k := 1) (n := 6) (by decide) (by decide) ?_
          exact W.iret (v := (0 : Int32)) hx hb hr (fun t ht hW => ⟨⟨(0 : Int32), ((oX7_knows_kb0 ni li mi mv nx al nc nl kb0 hb0 p1 p2 (jL_does_0_18_0 ni li mi mv nx al nc nl kb0 hb0 p1 p2 p3 p4))), rfl, ⟨(by unfold rL_does_0; rw [if_pos c_3, if_pos c_5]), (by unfold oL_does_0_kb0; rw [if_pos c_3])⟩, (by rw [ht]; exact hP.sub [0, 1, 2, 3] rfl), va_K.moved hW.alike hK, hD.sub [0, 1, 2, 3] (by decide) rfl⟩, hS.F ht⟩) hS.2.2 dL_does_326
        · refine lv_iconst (v := 1) hx hb dL_does_24 (by decide) ?_
          refine lv_goto (tgt := 326) hx hb dL_does_25 (by decide) ?_
          refine W.widen (k := 1) (n := 6) (by decide) (by decide) ?_
          exact W.iret (v := (1 : Int32)) hx hb hr (fun t ht hW => ⟨⟨(1 : Int32), ((oX7_knows_kb0 ni li mi mv nx al nc nl kb0 hb0 p1 p2 (jL_does_0_18_0 ni li mi mv nx al nc nl kb0 hb0 p1 p2 p3 p4))), rfl, ⟨(by unfold rL_does_0; rw [if_pos c_3, if_neg c_5]), (by unfold oL_does_0_kb0; rw [if_pos c_3])⟩, (by rw [ht]; exact hP.sub [0, 1, 2, 3] rfl), va_K.moved hW.alike hK, hD.sub [0, 1, 2, 3] (by decide) rfl⟩, hS.F ht⟩) hS.2.2 dL_does_326
    subst hR9; subst hQ9
    refine lv_icmp_ne (tgt := 17) hx hb dL_does_10 (by decide) (fun c_6 => ?_) (fun c_6 => ?_)
    · refine lv_iconst (v := 0) hx hb dL_does_17 (by decide) ?_
      exact J18 (0 : Int32) (by unfold jL_does_0_18_0; rw [if_neg c_6]) _ (lv_sub hl [0, 1, 2, 3, 4, 5] rfl)
    · refine lv_iconst (v := 1) hx hb dL_does_13 (by decide) ?_
      refine lv_goto (tgt := 18) hx hb dL_does_14 (by decide) ?_
      exact J18 (1 : Int32) (by unfold jL_does_0_18_0; rw [if_pos c_6]) _ (lv_sub hl [0, 1, 2, 3, 4, 5] rfl)

/-! L_does -/
def rL_does_1 (ni : Int32) (li : Int32) (mi : Int32) (mv : Int32) (nx : Int32) (al : Int32) (nc : Int32) (nl : Int32) (kb0 : Nat → Int32) (hb0 : Nat → Int32) (p1 : Int32) (p2 : Int32) (p3 : Int32) (p4 : Int32) : Int32 := (if (xX7_has ni li mi mv nx al nc nl kb0 hb0 p1 p2) = 0 then (rX7_has ni li mi mv nx al nc nl kb0 hb0 p1 p2) else (-3000000 : Int32))
def oL_does_1_hb0 (ni : Int32) (li : Int32) (mi : Int32) (mv : Int32) (nx : Int32) (al : Int32) (nc : Int32) (nl : Int32) (kb0 : Nat → Int32) (hb0 : Nat → Int32) (p1 : Int32) (p2 : Int32) (p3 : Int32) (p4 : Int32) : Nat → Int32 := (if (xX7_has ni li mi mv nx al nc nl kb0 hb0 p1 p2) = 0 then (oX7_has_hb0 ni li mi mv nx al nc nl kb0 hb0 p1 p2) else hb0)
set_option maxRecDepth 20000 in
theorem kL_does_1_0 : Cond.classLink RL 82 "java/lang/IndexOutOfBoundsException" ∈ wsL_does := by decide +kernel
set_option maxRecDepth 20000 in
theorem kL_does_1_1 : Cond.constant RL 84 (-3000000) ∈ wsL_does := by decide +kernel
set_option maxHeartbeats 500000 in
set_option maxRecDepth 100000 in
theorem c_L_does_1 (l : Launch) (hfl : l.stackTraces = false) (dC : Nat → ClassId) (dI : Nat → Nat → Nat) (cI cJ : ClassId) (mh la ka hh ca sg pl rw tw ga pa : Nat) (sz : Nat) (ni : Int32) (li : Int32) (mi : Int32) (mv : Int32) (nx : Int32) (al : Int32) (nc : Int32) (nl : Int32) (kb0 : Nat → Int32) (hb0 : Nat → Int32) (p1 : Int32) (p2 : Int32) (p3 : Int32) (p4 : Int32) : Met l yL_does wsL_does ({ frames := 8, cells := 1, slots := 6, locals := 125 }) (va_Pc [.ref mh, .int (1 : Int32), .int p1, .int p2, .int p3, .int p4] (zI (dC, dI) [(cI, .int), (cJ, .long)] [(mh, .inr (7, [.ref ca, .ref la, .ref sg, .ref pl, .ref rw, .ref tw, .ref ga, .ref pa, .int ni, .int li, .int mi, .int mv, .int nx, .int al, .int nc, .int nl])), (la, .inr (2, [.ref ka, .ref hh])), (ka, .inl (cI, 4, .inl kb0)), (hh, .inl (cI, 4, .inl hb0))] sz)) (va_Qi (fun (r : Int32) (u : (Nat → Int32)) => r = rL_does_1 ni li mi mv nx al nc nl kb0 hb0 p1 p2 p3 p4 ∧ u = oL_does_1_hb0 ni li mi mv nx al nc nl kb0 hb0 p1 p2 p3 p4) (fun u => zO (dC, dI) [(cI, .int), (cJ, .long)] [(mh, .inr (7, [.ref ca, .ref la, .ref sg, .ref pl, .ref rw, .ref tw, .ref ga, .ref pa, .int ni, .int li, .int mi, .int mv, .int nx, .int al, .int nc, .int nl])), (la, .inr (2, [.ref ka, .ref hh])), (ka, .inl (cI, 4, .inl kb0)), (hh, .inl (cI, 4, .inl u))] (va_A [(mh, .inr (7, [.ref ca, .ref la, .ref sg, .ref pl, .ref rw, .ref tw, .ref ga, .ref pa, .int ni, .int li, .int mi, .int mv, .int nx, .int al, .int nc, .int nl])), (la, .inr (2, [.ref ka, .ref hh])), (ka, .inl (cI, 4, .inl kb0)), (hh, .inl (cI, 4, .inl hb0))] sz)) (va_A [(mh, .inr (7, [.ref ca, .ref la, .ref sg, .ref pl, .ref rw, .ref tw, .ref ga, .ref pa, .int ni, .int li, .int mi, .int mv, .int nx, .int al, .int nc, .int nl])), (la, .inr (2, [.ref ka, .ref hh])), (ka, .inl (cI, 4, .inl kb0)), (hh, .inl (cI, 4, .inl hb0))] sz)) 1 6 (va_A [(mh, .inr (7, [.ref ca, .ref la, .ref sg, .ref pl, .ref rw, .ref tw, .ref ga, .ref pa, .int ni, .int li, .int mi, .int mv, .int nx, .int al, .int nc, .int nl])), (la, .inr (2, [.ref ka, .ref hh])), (ka, .inl (cI, 4, .inl kb0)), (hh, .inl (cI, 4, .inl hb0))] sz) := by
  refine va_MetW (cc := cL_does) (maxL := 7) (ret := (some .int)) (by decide) rfl ?_
  intro p e s m args below meth c s₁ B hml hv
  obtain ⟨rfl, hsz, hP, hK, hD0, hG⟩ := hv
  have hx := B.exec
  have hb := B.bytes
  have hr := B.returns
  have hts := atoms_spec (ws := wsL_does) B.pre
  have hown : s.vm.findClass RL = some m.cls := findClass_of_methodNamed B.named
  have hlocks := B.notSynchronized
  have htab := vx_table (x := yL_does) (y := yL_does) B (hts _ List.mem_cons_self)
  subst hsz
  have hD := hD0.self (sz := s.heap.size)
  generalize hAe : va_A [(mh, .inr (7, [.ref ca, .ref la, .ref sg, .ref pl, .ref rw, .ref tw, .ref ga, .ref pa, .int ni, .int li, .int mi, .int mv, .int nx, .int al, .int nc, .int nl])), (la, .inr (2, [.ref ka, .ref hh])), (ka, .inl (cI, 4, .inl kb0)), (hh, .inl (cI, 4, .inl hb0))] s.heap.size = A at hD hG ⊢
  have hA : ∀ q : Nat, s.heap.size ≤ q → A q := fun q h => by rw [← hAe]; exact Or.inr h
  have hS : va_S A s.heap s.heap [] := va_S.rf
  have hP : va_P (dC, dI) vwCl [(mh, .inr (7, [.ref ca, .ref la, .ref sg, .ref pl, .ref rw, .ref tw, .ref ga, .ref pa, .int ni, .int li, .int mi, .int mv, .int nx, .int al, .int nc, .int nl])), (la, .inr (2, [.ref ka, .ref hh])), (ka, .inl (cI, 4, .inl kb0)), (hh, .inl (cI, 4, .inl hb0))] s.heap := hP
  have hl := lv_entry ([.ref mh, .int (1 : Int32), .int p1, .int p2, .int p3, .int p4]) (n := 7) (Nat.le_of_ble_eq_true rfl)
  rw [lg_entry_eq]
  generalize (lg_sl ([.ref mh, .int (1 : Int32), .int p1, .int p2, .int p3, .int p4]) ++ List.replicate (7 - (lg_sl ([.ref mh, .int (1 : Int32), .int p1, .int p2, .int p3, .int p4])).length) Slot.unset).toArray = ls at hl ⊢
  have hl : lv_has ls 7 [(0, .ref mh), (1, .int (1 : Int32)), (2, .int p1), (3, .int p2), (4, .int p3), (5, .int p4)] := hl
  refine lv_iload_n hx hb dL_does_0 rfl (lv_at hl 1 rfl) ?_
  refine lv_if_ne (tgt := 32) hx hb dL_does_1 (by decide) (fun c_1 => ?_) (fun c_1 => ?_)
  · refine lv_iload_n hx hb dL_does_32 rfl (lv_at hl 1 rfl) ?_
    refine lv_iconst (v := 1) hx hb dL_does_33 (by decide) ?_
    refine lv_icmp_ne (tgt := 46) hx hb dL_does_34 (by decide) (fun c_2 => ?_) (fun c_2 => ?_)
    · exact absurd (show (1 : Int32) = (1 : Int32) from by decide) c_2
    · refine lv_aload_n hx hb dL_does_37 rfl (lv_at hl 0 rfl) ?_
      refine lv_iload_n hx hb dL_does_38 rfl (lv_at hl 2 rfl) ?_
      refine lv_iload_n hx hb dL_does_39 rfl (lv_at hl 3 rfl) ?_
      refine zxI (wr := []) (px := fun k9 => (xX7_has ni li mi mv nx al nc nl kb0 hb0 p1 p2) = k9 ∧ k9 ≠ 0) (P0 := (xX7_has ni li mi mv nx al nc nl kb0 hb0 p1 p2) = 0) (r0 := (rX7_has ni li mi mv nx al nc nl kb0 hb0 p1 p2)) (u0 := ((oX7_has_hb0 ni li mi mv nx al nc nl kb0 hb0 p1 p2))) (vx_runV (As := [.int p1, .int p2]) (rest := []) ⟨hx, hb, hml, hown, hts⟩ (c_X7_has l hfl dC dI cI cJ mh la ka hh ca sg pl rw tw ga pa s.heap.size ni li mi mv nx al nc nl kb0 hb0 p1 p2 ) (cwV 2 hts gL_does_X7_has rfl rfl rfl (by decide +kernel) ⟨Nat.le_of_ble_eq_true rfl, Nat.le_of_ble_eq_true rfl⟩) (zpV hK hP hD hS hA hG [0, 1, 2, 3] (by decide) rfl 7 0 rfl rfl) rfl rfl hl.1 rfl (lv_room (Nat.le_of_ble_eq_true rfl)) dL_does_40 ⟨Nat.le_of_ble_eq_true rfl, Nat.le_of_ble_eq_true rfl⟩) (fun r u h => ⟨h.1, h.2.1, h.2.2⟩) hP hD hS hA [0, 1, 2, 3] [] rfl rfl (by decide) (by decide) (fun k9 ce q9 H locs hw_3 hP hS hce hcv hcl => ?_) (fun H locs c_4 hP hD hS => ?_)
      · have hk9 : k9 = 1 := by have h := bxX7_has ni li mi mv nx al nc nl kb0 hb0 p1 p2; omega
        subst hk9
        have c_4 : ¬ (xX7_has ni li mi mv nx al nc nl kb0 hb0 p1 p2) = 0 := by rw [hw_3.1]; decide
        have c_5 : (xX7_has ni li mi mv nx al nc nl kb0 hb0 p1 p2) = 1 := hw_3.1
        refine vx_catch (name := zXn 1) hown [] ⟨0, 326, 327, 82⟩ [⟨0, 326, 332, 85⟩, ⟨0, 326, 337, 88⟩] htab (fun z hz => by cases hz) (by decide) (by decide) (hts _ kL_does_1_0) (va_Nw.use rfl (hG.1.2.2.2.1 1)) hce hcv hcl ?_
        refine lv_astore (lv' := [(6, .ref q9), (0, .ref mh), (1, .int (1 : Int32)), (2, .int p1), (3, .int p2), (4, .int p3), (5, .int p4)]) hx hb dL_does_327 hl (by decide) rfl (fun ls hl => ?_)
        refine lv_ldc (v := -3000000) hx hb hown (hts _ kL_does_1_1) dL_does_329 ?_
        refine W.widen (k := 1) (n := 6) (by decide) (by decide) ?_
        exact W.iret (v := (-3000000 : Int32)) hx hb hr (fun t ht hW => ⟨⟨(-3000000 : Int32), (hb0), rfl, ⟨(by unfold rL_does_1; rw [if_neg c_4]), (by unfold oL_does_1_hb0; rw [if_neg c_4])⟩, (by rw [ht]; exact hP.sub [0, 1, 2, 3] rfl), va_K.moved hW.alike hK, hD.sub [0, 1, 2, 3] (by decide) rfl⟩, hS.F ht⟩) hS.2.2 dL_does_331
      · try dsimp only [List.cons_append, List.nil_append] at hP hD
        have hP : va_P (dC, dI) vwCl [(mh, .inr (7, [.ref ca, .ref la, .ref sg, .ref pl, .ref rw, .ref tw, .ref ga, .ref pa, .int ni, .int li, .int mi, .int mv, .int nx, .int al, .int nc, .int nl])), (la, .inr (2, [.ref ka, .ref hh])), (ka, .inl (cI, 4, .inl kb0)), (hh, .inl (cI, 4, .inl (oX7_has_hb0 ni li mi mv nx al nc nl kb0 hb0 p1 p2)))] H := hP
        have hD : va_D A [(mh, .inr (7, [.ref ca, .ref la, .ref sg, .ref pl, .ref rw, .ref tw, .ref ga, .ref pa, .int ni, .int li, .int mi, .int mv, .int nx, .int al, .int nc, .int nl])), (la, .inr (2, [.ref ka, .ref hh])), (ka, .inl (cI, 4, .inl kb0)), (hh, .inl (cI, 4, .inl (oX7_has_hb0 ni li mi mv nx al nc nl kb0 hb0 p1 p2)))] := hD
        refine lv_goto (tgt := 326) hx hb dL_does_43 (by decide) ?_
        refine W.widen (k := 1) (n := 6) (by decide) (by decide) ?_
        exact W.iret (v := (rX7_has ni li mi mv nx al nc nl kb0 hb0 p1 p2)) hx hb hr (fun t ht hW => ⟨⟨(rX7_has ni li mi mv nx al nc nl kb0 hb0 p1 p2), ((oX7_has_hb0 ni li mi mv nx al nc nl kb0 hb0 p1 p2)), rfl, ⟨(by unfold rL_does_1; rw [if_pos c_4]), (by unfold oL_does_1_hb0; rw [if_pos c_4])⟩, (by rw [ht]; exact hP.sub [0, 1, 2, 3] rfl), va_K.moved hW.alike hK, hD.sub [0, 1, 2, 3] (by decide) rfl⟩, hS.F ht⟩) hS.2.2 dL_does_326
  · exact absurd c_1 (by decide)

/-! L_does -/
def rL_does_2 (ni : Int32) (li : Int32) (mi : Int32) (mv : Int32) (nx : Int32) (al : Int32) (nc : Int32) (nl : Int32) (ki : Nat → Int32) (fi : Nat → Int32) (se : Nat → Int32) (th : Nat → Int32) (size : Int32) (p1 : Int32) (p2 : Int32) (p3 : Int32) (p4 : Int32) : Int32 := (if (xX7_step ni li mi mv nx al nc nl ki fi se th size p1 p2 p3 p4) = 0 then (rX7_step ni li mi mv nx al nc nl ki fi se th size p1 p2 p3 p4) else (if (xX7_step ni li mi mv nx al nc nl ki fi se th size p1 p2 p3 p4) = 1 then (-3000000 : Int32) else (if (xX7_step ni li mi mv nx al nc nl ki fi se th size p1 p2 p3 p4) = 2 then (-2000000 : Int32) else (-1000000 : Int32))))
def oL_does_2_ki (ni : Int32) (li : Int32) (mi : Int32) (mv : Int32) (nx : Int32) (al : Int32) (nc : Int32) (nl : Int32) (ki : Nat → Int32) (fi : Nat → Int32) (se : Nat → Int32) (th : Nat → Int32) (size : Int32) (p1 : Int32) (p2 : Int32) (p3 : Int32) (p4 : Int32) : Nat → Int32 := (if (xX7_step ni li mi mv nx al nc nl ki fi se th size p1 p2 p3 p4) = 0 then (oX7_step_ki ni li mi mv nx al nc nl ki fi se th size p1 p2 p3 p4) else ki)
def oL_does_2_fi (ni : Int32) (li : Int32) (mi : Int32) (mv : Int32) (nx : Int32) (al : Int32) (nc : Int32) (nl : Int32) (ki : Nat → Int32) (fi : Nat → Int32) (se : Nat → Int32) (th : Nat → Int32) (size : Int32) (p1 : Int32) (p2 : Int32) (p3 : Int32) (p4 : Int32) : Nat → Int32 := (if (xX7_step ni li mi mv nx al nc nl ki fi se th size p1 p2 p3 p4) = 0 then (oX7_step_fi ni li mi mv nx al nc nl ki fi se th size p1 p2 p3 p4) else fi)
def oL_does_2_se (ni : Int32) (li : Int32) (mi : Int32) (mv : Int32) (nx : Int32) (al : Int32) (nc : Int32) (nl : Int32) (ki : Nat → Int32) (fi : Nat → Int32) (se : Nat → Int32) (th : Nat → Int32) (size : Int32) (p1 : Int32) (p2 : Int32) (p3 : Int32) (p4 : Int32) : Nat → Int32 := (if (xX7_step ni li mi mv nx al nc nl ki fi se th size p1 p2 p3 p4) = 0 then (oX7_step_se ni li mi mv nx al nc nl ki fi se th size p1 p2 p3 p4) else se)
def oL_does_2_th (ni : Int32) (li : Int32) (mi : Int32) (mv : Int32) (nx : Int32) (al : Int32) (nc : Int32) (nl : Int32) (ki : Nat → Int32) (fi : Nat → Int32) (se : Nat → Int32) (th : Nat → Int32) (size : Int32) (p1 : Int32) (p2 : Int32) (p3 : Int32) (p4 : Int32) : Nat → Int32 := (if (xX7_step ni li mi mv nx al nc nl ki fi se th size p1 p2 p3 p4) = 0 then (oX7_step_th ni li mi mv nx al nc nl ki fi se th size p1 p2 p3 p4) else th)
def oL_does_2_size (ni : Int32) (li : Int32) (mi : Int32) (mv : Int32) (nx : Int32) (al : Int32) (nc : Int32) (nl : Int32) (ki : Nat → Int32) (fi : Nat → Int32) (se : Nat → Int32) (th : Nat → Int32) (size : Int32) (p1 : Int32) (p2 : Int32) (p3 : Int32) (p4 : Int32) : Int32 := (if (xX7_step ni li mi mv nx al nc nl ki fi se th size p1 p2 p3 p4) = 0 then (oX7_step_size ni li mi mv nx al nc nl ki fi se th size p1 p2 p3 p4) else size)
set_option maxRecDepth 20000 in
theorem kL_does_2_0 : Cond.classLink RL 82 "java/lang/IndexOutOfBoundsException" ∈ wsL_does := by decide +kernel
set_option maxRecDepth 20000 in
theorem kL_does_2_1 : Cond.constant RL 84 (-3000000) ∈ wsL_does := by decide +kernel
set_option maxRecDepth 20000 in
theorem kL_does_2_2 : Cond.classLink RL 85 "java/lang/IllegalArgumentException" ∈ wsL_does := by decide +kernel
set_option maxRecDepth 20000 in
theorem kL_does_2_3 : Cond.constant RL 87 (-2000000) ∈ wsL_does := by decide +kernel
set_option maxRecDepth 20000 in
theorem kL_does_2_4 : Cond.classLink RL 88 "java/lang/IllegalStateException" ∈ wsL_does := by decide +kernel
set_option maxRecDepth 20000 in
theorem kL_does_2_5 : Cond.constant RL 90 (-1000000) ∈ wsL_does := by decide +kernel
set_option maxHeartbeats 760000 in
set_option maxRecDepth 100000 in
theorem c_L_does_2 (l : Launch) (hfl : l.stackTraces = false) (dC : Nat → ClassId) (dI : Nat → Nat → Nat) (cI cJ : ClassId) (mh ca ck cf cs ct la sg pl rw tw ga pa : Nat) (sz : Nat) (ni : Int32) (li : Int32) (mi : Int32) (mv : Int32) (nx : Int32) (al : Int32) (nc : Int32) (nl : Int32) (ki : Nat → Int32) (fi : Nat → Int32) (se : Nat → Int32) (th : Nat → Int32) (size : Int32) (p1 : Int32) (p2 : Int32) (p3 : Int32) (p4 : Int32) (hsz0 : 0 ≤ size.toInt) (hsz : size.toInt ≤ 12) : Met l yL_does wsL_does ({ frames := 8, cells := 1, slots := 6, locals := 128 }) (va_Pc [.ref mh, .int (2 : Int32), .int p1, .int p2, .int p3, .int p4] (zI (dC, dI) [(cI, .int), (cJ, .long)] [(mh, .inr (7, [.ref ca, .ref la, .ref sg, .ref pl, .ref rw, .ref tw, .ref ga, .ref pa, .int ni, .int li, .int mi, .int mv, .int nx, .int al, .int nc, .int nl])), (ca, .inr (0, [.ref ck, .ref cf, .ref cs, .ref ct, .int size])), (ck, .inl (cI, 12, .inl ki)), (cf, .inl (cI, 12, .inl fi)), (cs, .inl (cI, 12, .inl se)), (ct, .inl (cI, 12, .inl th))] sz)) (va_Qi (fun (r : Int32) (u : (Nat → Int32) × (Nat → Int32) × (Nat → Int32) × (Nat → Int32) × (Int32)) => r = rL_does_2 ni li mi mv nx al nc nl ki fi se th size p1 p2 p3 p4 ∧ u.1 = oL_does_2_ki ni li mi mv nx al nc nl ki fi se th size p1 p2 p3 p4 ∧ u.2.1 = oL_does_2_fi ni li mi mv nx al nc nl ki fi se th size p1 p2 p3 p4 ∧ u.2.2.1 = oL_does_2_se ni li mi mv nx al nc nl ki fi se th size p1 p2 p3 p4 ∧ u.2.2.2.1 = oL_does_2_th ni li mi mv nx al nc nl ki fi se th size p1 p2 p3 p4 ∧ u.2.2.2.2 = oL_does_2_size ni li mi mv nx al nc nl ki fi se th size p1 p2 p3 p4) (fun u => zO (dC, dI) [(cI, .int), (cJ, .long)] [(mh, .inr (7, [.ref ca, .ref la, .ref sg, .ref pl, .ref rw, .ref tw, .ref ga, .ref pa, .int ni, .int li, .int mi, .int mv, .int nx, .int al, .int nc, .int nl])), (ca, .inr (0, [.ref ck, .ref cf, .ref cs, .ref ct, .int u.2.2.2.2])), (ck, .inl (cI, 12, .inl u.1)), (cf, .inl (cI, 12, .inl u.2.1)), (cs, .inl (cI, 12, .inl u.2.2.1)), (ct, .inl (cI, 12, .inl u.2.2.2.1))] (va_A [(mh, .inr (7, [.ref ca, .ref la, .ref sg, .ref pl, .ref rw, .ref tw, .ref ga, .ref pa, .int ni, .int li, .int mi, .int mv, .int nx, .int al, .int nc, .int nl])), (ca, .inr (0, [.ref ck, .ref cf, .ref cs, .ref ct, .int size])), (ck, .inl (cI, 12, .inl ki)), (cf, .inl (cI, 12, .inl fi)), (cs, .inl (cI, 12, .inl se)), (ct, .inl (cI, 12, .inl th))] sz)) (va_A [(mh, .inr (7, [.ref ca, .ref la, .ref sg, .ref pl, .ref rw, .ref tw, .ref ga, .ref pa, .int ni, .int li, .int mi, .int mv, .int nx, .int al, .int nc, .int nl])), (ca, .inr (0, [.ref ck, .ref cf, .ref cs, .ref ct, .int size])), (ck, .inl (cI, 12, .inl ki)), (cf, .inl (cI, 12, .inl fi)), (cs, .inl (cI, 12, .inl se)), (ct, .inl (cI, 12, .inl th))] sz)) 1 6 (va_A [(mh, .inr (7, [.ref ca, .ref la, .ref sg, .ref pl, .ref rw, .ref tw, .ref ga, .ref pa, .int ni, .int li, .int mi, .int mv, .int nx, .int al, .int nc, .int nl])), (ca, .inr (0, [.ref ck, .ref cf, .ref cs, .ref ct, .int size])), (ck, .inl (cI, 12, .inl ki)), (cf, .inl (cI, 12, .inl fi)), (cs, .inl (cI, 12, .inl se)), (ct, .inl (cI, 12, .inl th))] sz) := by
  refine va_MetW (cc := cL_does) (maxL := 7) (ret := (some .int)) (by decide) rfl ?_
  intro p e s m args below meth c s₁ B hml hv
  obtain ⟨rfl, hsz, hP, hK, hD0, hG⟩ := hv
  have hx := B.exec
  have hb := B.bytes
  have hr := B.returns
  have hts := atoms_spec (ws := wsL_does) B.pre
  have hown : s.vm.findClass RL = some m.cls := findClass_of_methodNamed B.named
  have hlocks := B.notSynchronized
  have htab := vx_table (x := yL_does) (y := yL_does) B (hts _ List.mem_cons_self)
  subst hsz
  have hD := hD0.self (sz := s.heap.size)
  generalize hAe : va_A [(mh, .inr (7, [.ref ca, .ref la, .ref sg, .ref pl, .ref rw, .ref tw, .ref ga, .ref pa, .int ni, .int li, .int mi, .int mv, .int nx, .int al, .int nc, .int nl])), (ca, .inr (0, [.ref ck, .ref cf, .ref cs, .ref ct, .int size])), (ck, .inl (cI, 12, .inl ki)), (cf, .inl (cI, 12, .inl fi)), (cs, .inl (cI, 12, .inl se)), (ct, .inl (cI, 12, .inl th))] s.heap.size = A at hD hG ⊢
  have hA : ∀ q : Nat, s.heap.size ≤ q → A q := fun q h => by rw [← hAe]; exact Or.inr h
  have hS : va_S A s.heap s.heap [] := va_S.rf
  have hP : va_P (dC, dI) vwCl [(mh, .inr (7, [.ref ca, .ref la, .ref sg, .ref pl, .ref rw, .ref tw, .ref ga, .ref pa, .int ni, .int li, .int mi, .int mv, .int nx, .int al, .int nc, .int nl])), (ca, .inr (0, [.ref ck, .ref cf, .ref cs, .ref ct, .int size])), (ck, .inl (cI, 12, .inl ki)), (cf, .inl (cI, 12, .inl fi)), (cs, .inl (cI, 12, .inl se)), (ct, .inl (cI, 12, .inl th))] s.heap := hP
  have hl := lv_entry ([.ref mh, .int (2 : Int32), .int p1, .int p2, .int p3, .int p4]) (n := 7) (Nat.le_of_ble_eq_true rfl)
  rw [lg_entry_eq]
  generalize (lg_sl ([.ref mh, .int (2 : Int32), .int p1, .int p2, .int p3, .int p4]) ++ List.replicate (7 - (lg_sl ([.ref mh, .int (2 : Int32), .int p1, .int p2, .int p3, .int p4])).length) Slot.unset).toArray = ls at hl ⊢
  have hl : lv_has ls 7 [(0, .ref mh), (1, .int (2 : Int32)), (2, .int p1), (3, .int p2), (4, .int p3), (5, .int p4)] := hl
  refine lv_iload_n hx hb dL_does_0 rfl (lv_at hl 1 rfl) ?_
  refine lv_if_ne (tgt := 32) hx hb dL_does_1 (by decide) (fun c_1 => ?_) (fun c_1 => ?_)
  · refine lv_iload_n hx hb dL_does_32 rfl (lv_at hl 1 rfl) ?_
    refine lv_iconst (v := 1) hx hb dL_does_33 (by decide) ?_
    refine lv_icmp_ne (tgt := 46) hx hb dL_does_34 (by decide) (fun c_2 => ?_) (fun c_2 => ?_)
    · refine lv_iload_n hx hb dL_does_46 rfl (lv_at hl 1 rfl) ?_
      refine lv_iconst (v := 2) hx hb dL_does_47 (by decide) ?_
      refine lv_icmp_ne (tgt := 64) hx hb dL_does_48 (by decide) (fun c_3 => ?_) (fun c_3 => ?_)
      · exact absurd (show (2 : Int32) = (2 : Int32) from by decide) c_3
      · refine lv_aload_n hx hb dL_does_51 rfl (lv_at hl 0 rfl) ?_
        refine lv_iload_n hx hb dL_does_52 rfl (lv_at hl 2 rfl) ?_
        refine lv_iload_n hx hb dL_does_53 rfl (lv_at hl 3 rfl) ?_
        refine lv_iload hx hb dL_does_54 (lv_at hl 4 rfl) ?_
        refine lv_iload hx hb dL_does_56 (lv_at hl 5 rfl) ?_
        refine zxI (wr := []) (px := fun k9 => (xX7_step ni li mi mv nx al nc nl ki fi se th size p1 p2 p3 p4) = k9 ∧ k9 ≠ 0) (P0 := (xX7_step ni li mi mv nx al nc nl ki fi se th size p1 p2 p3 p4) = 0) (r0 := (rX7_step ni li mi mv nx al nc nl ki fi se th size p1 p2 p3 p4)) (u0 := ((oX7_step_ki ni li mi mv nx al nc nl ki fi se th size p1 p2 p3 p4), (oX7_step_fi ni li mi mv nx al nc nl ki fi se th size p1 p2 p3 p4), (oX7_step_se ni li mi mv nx al nc nl ki fi se th size p1 p2 p3 p4), (oX7_step_th ni li mi mv nx al nc nl ki fi se th size p1 p2 p3 p4), (oX7_step_size ni li mi mv nx al nc nl ki fi se th size p1 p2 p3 p4))) (vx_runV (As := [.int p1, .int p2, .int p3, .int p4]) (rest := []) ⟨hx, hb, hml, hown, hts⟩ (c_X7_step l hfl dC dI cI cJ mh ca ck cf cs ct la sg pl rw tw ga pa s.heap.size ni li mi mv nx al nc nl ki fi se th size p1 p2 p3 p4 (by assumption) (by assumption)) (cwV 4 hts gL_does_X7_step rfl rfl rfl (by decide +kernel) ⟨Nat.le_of_ble_eq_true rfl, Nat.le_of_ble_eq_true rfl⟩) (zpV hK hP hD hS hA hG [0, 1, 2, 3, 4, 5] (by decide) rfl 7 0 rfl rfl) rfl rfl hl.1 rfl (lv_room (Nat.le_of_ble_eq_true rfl)) dL_does_58 ⟨Nat.le_of_ble_eq_true rfl, Nat.le_of_ble_eq_true rfl⟩) (fun r u h => ⟨h.1, h.2.1, zT5 h.2.2.1 h.2.2.2.1 h.2.2.2.2.1 h.2.2.2.2.2.1 h.2.2.2.2.2.2⟩) hP hD hS hA [0, 1, 2, 3, 4, 5] [] rfl rfl (by decide) (by decide) (fun k9 ce q9 H locs hw_4 hP hS hce hcv hcl => ?_) (fun H locs c_5 hP hD hS => ?_)
        · have hk9 : k9 = 1 ∨ k9 = 2 ∨ k9 = 3 := by have h := bxX7_step ni li mi mv nx al nc nl ki fi se th size p1 p2 p3 p4; omega
          rcases hk9 with rfl | rfl | rfl
          · have c_5 : ¬ (xX7_step ni li mi mv nx al nc nl ki fi se th size p1 p2 p3 p4) = 0 := by rw [hw_4.1]; decide
            have c_6 : (xX7_step ni li mi mv nx al nc nl ki fi se th size p1 p2 p3 p4) = 1 := hw_4.1
            refine vx_catch (name := zXn 1) hown [] ⟨0, 326, 327, 82⟩ [⟨0, 326, 332, 85⟩, ⟨0, 326, 337, 88⟩] htab (fun z hz => by cases hz) (by decide) (by decide) (hts _ kL_does_2_0) (va_Nw.use rfl (hG.1.2.2.2.1 1)) hce hcv hcl ?_
            refine lv_astore (lv' := [(6, .ref q9), (0, .ref mh), (1, .int (2 : Int32)), (2, .int p1), (3, .int p2), (4, .int p3), (5, .int p4)]) hx hb dL_does_327 hl (by decide) rfl (fun ls hl => ?_)
            refine lv_ldc (v := -3000000) hx hb hown (hts _ kL_does_2_1) dL_does_329 ?_
            refine W.widen (k := 1) (n := 6) (by decide) (by decide) ?_
            exact W.iret (v := (-3000000 : Int32)) hx hb hr (fun t ht hW => ⟨⟨(-3000000 : Int32), (ki, fi, se, th, size), rfl, ⟨(by unfold rL_does_2; rw [if_neg c_5, if_pos c_6]), (by unfold oL_does_2_ki; rw [if_neg c_5]), (by unfold oL_does_2_fi; rw [if_neg c_5]), (by unfold oL_does_2_se; rw [if_neg c_5]), (by unfold oL_does_2_th; rw [if_neg c_5]), (by unfold oL_does_2_size; rw [if_neg c_5])⟩, (by rw [ht]; exact hP.sub [0, 1, 2, 3, 4, 5] rfl), va_K.moved hW.alike hK, hD.sub [0, 1, 2, 3, 4, 5] (by decide) rfl⟩, hS.F ht⟩) hS.2.2 dL_does_331
          · have c_5 : ¬ (xX7_step ni li mi mv nx al nc nl ki fi se th size p1 p2 p3 p4) = 0 := by rw [hw_4.1]; decide
            have c_8 : ¬ (xX7_step ni li mi mv nx al nc nl ki fi se th size p1 p2 p3 p4) = 1 := by rw [hw_4.1]; decide
            have c_7 : (xX7_step ni li mi mv nx al nc nl ki fi se th size p1 p2 p3 p4) = 2 := hw_4.1
            refine vx_catch (name := zXn 2) hown [⟨0, 326, 327, 82⟩] ⟨0, 326, 332, 85⟩ [⟨0, 326, 337, 88⟩] htab (fun z hz => by rcases (List.mem_cons.mp hz) with rfl | hz; exact Or.inr ⟨by decide, _, (hts _ kL_does_2_0), hG.1.2.2.1 _ (List.mem_of_getElem? (i := 0) rfl)⟩; cases hz) (by decide) (by decide) (hts _ kL_does_2_2) (va_Nw.use rfl (hG.1.2.2.2.1 2)) hce hcv hcl ?_
            refine lv_astore (lv' := [(6, .ref q9), (0, .ref mh), (1, .int (2 : Int32)), (2, .int p1), (3, .int p2), (4, .int p3), (5, .int p4)]) hx hb dL_does_332 hl (by decide) rfl (fun ls hl => ?_)
            refine lv_ldc (v := -2000000) hx hb hown (hts _ kL_does_2_3) dL_does_334 ?_
            refine W.widen (k := 1) (n := 6) (by decide) (by decide) ?_
            exact W.iret (v := (-2000000 : Int32)) hx hb hr (fun t ht hW => ⟨⟨(-2000000 : Int32), (ki, fi, se, th, size), rfl, ⟨(by unfold rL_does_2; rw [if_neg c_5, if_neg c_8, if_pos c_7]), (by unfold oL_does_2_ki; rw [if_neg c_5]), (by unfold oL_does_2_fi; rw [if_neg c_5]), (by unfold oL_does_2_se; rw [if_neg c_5]), (by unfold oL_does_2_th; rw [if_neg c_5]), (by unfold oL_does_2_size; rw [if_neg c_5])⟩, (by rw [ht]; exact hP.sub [0, 1, 2, 3, 4, 5] rfl), va_K.moved hW.alike hK, hD.sub [0, 1, 2, 3, 4, 5] (by decide) rfl⟩, hS.F ht⟩) hS.2.2 dL_does_336
          · have c_5 : ¬ (xX7_step ni li mi mv nx al nc nl ki fi se th size p1 p2 p3 p4) = 0 := by rw [hw_4.1]; decide
            have c_10 : ¬ (xX7_step ni li mi mv nx al nc nl ki fi se th size p1 p2 p3 p4) = 1 := by rw [hw_4.1]; decide
            have c_11 : ¬ (xX7_step ni li mi mv nx al nc nl ki fi se th size p1 p2 p3 p4) = 2 := by rw [hw_4.1]; decide
            have c_9 : (xX7_step ni li mi mv nx al nc nl ki fi se th size p1 p2 p3 p4) = 3 := hw_4.1
            refine vx_catch (name := zXn 3) hown [⟨0, 326, 327, 82⟩, ⟨0, 326, 332, 85⟩] ⟨0, 326, 337, 88⟩ [] htab (fun z hz => by rcases (List.mem_cons.mp hz) with rfl | hz; exact Or.inr ⟨by decide, _, (hts _ kL_does_2_0), hG.1.2.2.1 _ (List.mem_of_getElem? (i := 1) rfl)⟩; rcases (List.mem_cons.mp hz) with rfl | hz; exact Or.inr ⟨by decide, _, (hts _ kL_does_2_2), hG.1.2.2.1 _ (List.mem_of_getElem? (i := 2) rfl)⟩; cases hz) (by decide) (by decide) (hts _ kL_does_2_4) (va_Nw.use rfl (hG.1.2.2.2.1 3)) hce hcv hcl ?_
            refine lv_astore (lv' := [(6, .ref q9), (0, .ref mh), (1, .int (2 : Int32)), (2, .int p1), (3, .int p2), (4, .int p3), (5, .int p4)]) hx hb dL_does_337 hl (by decide) rfl (fun ls hl => ?_)
            refine lv_ldc (v := -1000000) hx hb hown (hts _ kL_does_2_5) dL_does_339 ?_
            refine W.widen (k := 1) (n := 6) (by decide) (by decide) ?_
            exact W.iret (v := (-1000000 : Int32)) hx hb hr (fun t ht hW => ⟨⟨(-1000000 : Int32), (ki, fi, se, th, size), rfl, ⟨(by unfold rL_does_2; rw [if_neg c_5, if_neg c_10, if_neg c_11]), (by unfold oL_does_2_ki; rw [if_neg c_5]), (by unfold oL_does_2_fi; rw [if_neg c_5]), (by unfold oL_does_2_se; rw [if_neg c_5]), (by unfold oL_does_2_th; rw [if_neg c_5]), (by unfold oL_does_2_size; rw [if_neg c_5])⟩, (by rw [ht]; exact hP.sub [0, 1, 2, 3, 4, 5] rfl), va_K.moved hW.alike hK, hD.sub [0, 1, 2, 3, 4, 5] (by decide) rfl⟩, hS.F ht⟩) hS.2.2 dL_does_341
        · try dsimp only [List.cons_append, List.nil_append] at hP hD
          have hP : va_P (dC, dI) vwCl [(mh, .inr (7, [.ref ca, .ref la, .ref sg, .ref pl, .ref rw, .ref tw, .ref ga, .ref pa, .int ni, .int li, .int mi, .int mv, .int nx, .int al, .int nc, .int nl])), (ca, .inr (0, [.ref ck, .ref cf, .ref cs, .ref ct, .int (oX7_step_size ni li mi mv nx al nc nl ki fi se th size p1 p2 p3 p4)])), (ck, .inl (cI, 12, .inl (oX7_step_ki ni li mi mv nx al nc nl ki fi se th size p1 p2 p3 p4))), (cf, .inl (cI, 12, .inl (oX7_step_fi ni li mi mv nx al nc nl ki fi se th size p1 p2 p3 p4))), (cs, .inl (cI, 12, .inl (oX7_step_se ni li mi mv nx al nc nl ki fi se th size p1 p2 p3 p4))), (ct, .inl (cI, 12, .inl (oX7_step_th ni li mi mv nx al nc nl ki fi se th size p1 p2 p3 p4)))] H := hP
          have hD : va_D A [(mh, .inr (7, [.ref ca, .ref la, .ref sg, .ref pl, .ref rw, .ref tw, .ref ga, .ref pa, .int ni, .int li, .int mi, .int mv, .int nx, .int al, .int nc, .int nl])), (ca, .inr (0, [.ref ck, .ref cf, .ref cs, .ref ct, .int (oX7_step_size ni li mi mv nx al nc nl ki fi se th size p1 p2 p3 p4)])), (ck, .inl (cI, 12, .inl (oX7_step_ki ni li mi mv nx al nc nl ki fi se th size p1 p2 p3 p4))), (cf, .inl (cI, 12, .inl (oX7_step_fi ni li mi mv nx al nc nl ki fi se th size p1 p2 p3 p4))), (cs, .inl (cI, 12, .inl (oX7_step_se ni li mi mv nx al nc nl ki fi se th size p1 p2 p3 p4))), (ct, .inl (cI, 12, .inl (oX7_step_th ni li mi mv nx al nc nl ki fi se th size p1 p2 p3 p4)))] := hD
          refine lv_goto (tgt := 326) hx hb dL_does_61 (by decide) ?_
          refine W.widen (k := 1) (n := 6) (by decide) (by decide) ?_
          exact W.iret (v := (rX7_step ni li mi mv nx al nc nl ki fi se th size p1 p2 p3 p4)) hx hb hr (fun t ht hW => ⟨⟨(rX7_step ni li mi mv nx al nc nl ki fi se th size p1 p2 p3 p4), ((oX7_step_ki ni li mi mv nx al nc nl ki fi se th size p1 p2 p3 p4), (oX7_step_fi ni li mi mv nx al nc nl ki fi se th size p1 p2 p3 p4), (oX7_step_se ni li mi mv nx al nc nl ki fi se th size p1 p2 p3 p4), (oX7_step_th ni li mi mv nx al nc nl ki fi se th size p1 p2 p3 p4), (oX7_step_size ni li mi mv nx al nc nl ki fi se th size p1 p2 p3 p4)), rfl, ⟨(by unfold rL_does_2; rw [if_pos c_5]), (by unfold oL_does_2_ki; rw [if_pos c_5]), (by unfold oL_does_2_fi; rw [if_pos c_5]), (by unfold oL_does_2_se; rw [if_pos c_5]), (by unfold oL_does_2_th; rw [if_pos c_5]), (by unfold oL_does_2_size; rw [if_pos c_5])⟩, (by rw [ht]; exact hP.sub [0, 1, 2, 3, 4, 5] rfl), va_K.moved hW.alike hK, hD.sub [0, 1, 2, 3, 4, 5] (by decide) rfl⟩, hS.F ht⟩) hS.2.2 dL_does_326
    · exact absurd c_2 (by decide)
  · exact absurd c_1 (by decide)

/-! L_does -/
def rL_does_3 (ni : Int32) (li : Int32) (mi : Int32) (mv : Int32) (nx : Int32) (al : Int32) (nc : Int32) (nl : Int32) (ki : Nat → Int32) (fi : Nat → Int32) (se : Nat → Int32) (th : Nat → Int32) (size : Int32) (p1 : Int32) (p2 : Int32) (p3 : Int32) (p4 : Int32) : Int32 := (if (xX7_tear ni li mi mv nx al nc nl ki fi se th size) = 0 then (rX7_tear ni li mi mv nx al nc nl ki fi se th size) else (-1000000 : Int32))
def oL_does_3_size (ni : Int32) (li : Int32) (mi : Int32) (mv : Int32) (nx : Int32) (al : Int32) (nc : Int32) (nl : Int32) (ki : Nat → Int32) (fi : Nat → Int32) (se : Nat → Int32) (th : Nat → Int32) (size : Int32) (p1 : Int32) (p2 : Int32) (p3 : Int32) (p4 : Int32) : Int32 := (if (xX7_tear ni li mi mv nx al nc nl ki fi se th size) = 0 then (oX7_tear_size ni li mi mv nx al nc nl ki fi se th size) else size)
set_option maxRecDepth 20000 in
theorem kL_does_3_0 : Cond.classLink RL 82 "java/lang/IndexOutOfBoundsException" ∈ wsL_does := by decide +kernel
set_option maxRecDepth 20000 in
theorem kL_does_3_1 : Cond.classLink RL 85 "java/lang/IllegalArgumentException" ∈ wsL_does := by decide +kernel
set_option maxRecDepth 20000 in
theorem kL_does_3_2 : Cond.classLink RL 88 "java/lang/IllegalStateException" ∈ wsL_does := by decide +kernel
set_option maxRecDepth 20000 in
theorem kL_does_3_3 : Cond.constant RL 90 (-1000000) ∈ wsL_does := by decide +kernel
set_option maxHeartbeats 580000 in
set_option maxRecDepth 100000 in
theorem c_L_does_3 (l : Launch) (hfl : l.stackTraces = false) (dC : Nat → ClassId) (dI : Nat → Nat → Nat) (cI cJ : ClassId) (mh ca ck cf cs ct la sg pl rw tw ga pa : Nat) (sz : Nat) (ni : Int32) (li : Int32) (mi : Int32) (mv : Int32) (nx : Int32) (al : Int32) (nc : Int32) (nl : Int32) (ki : Nat → Int32) (fi : Nat → Int32) (se : Nat → Int32) (th : Nat → Int32) (size : Int32) (p1 : Int32) (p2 : Int32) (p3 : Int32) (p4 : Int32) : Met l yL_does wsL_does ({ frames := 8, cells := 1, slots := 6, locals := 123 }) (va_Pc [.ref mh, .int (3 : Int32), .int p1, .int p2, .int p3, .int p4] (zI (dC, dI) [(cI, .int), (cJ, .long)] [(mh, .inr (7, [.ref ca, .ref la, .ref sg, .ref pl, .ref rw, .ref tw, .ref ga, .ref pa, .int ni, .int li, .int mi, .int mv, .int nx, .int al, .int nc, .int nl])), (ca, .inr (0, [.ref ck, .ref cf, .ref cs, .ref ct, .int size])), (ck, .inl (cI, 12, .inl ki)), (cf, .inl (cI, 12, .inl fi)), (cs, .inl (cI, 12, .inl se)), (ct, .inl (cI, 12, .inl th))] sz)) (va_Qi (fun (r : Int32) (u : (Int32)) => r = rL_does_3 ni li mi mv nx al nc nl ki fi se th size p1 p2 p3 p4 ∧ u = oL_does_3_size ni li mi mv nx al nc nl ki fi se th size p1 p2 p3 p4) (fun u => zO (dC, dI) [(cI, .int), (cJ, .long)] [(mh, .inr (7, [.ref ca, .ref la, .ref sg, .ref pl, .ref rw, .ref tw, .ref ga, .ref pa, .int ni, .int li, .int mi, .int mv, .int nx, .int al, .int nc, .int nl])), (ca, .inr (0, [.ref ck, .ref cf, .ref cs, .ref ct, .int u])), (ck, .inl (cI, 12, .inl ki)), (cf, .inl (cI, 12, .inl fi)), (cs, .inl (cI, 12, .inl se)), (ct, .inl (cI, 12, .inl th))] (va_A [(mh, .inr (7, [.ref ca, .ref la, .ref sg, .ref pl, .ref rw, .ref tw, .ref ga, .ref pa, .int ni, .int li, .int mi, .int mv, .int nx, .int al, .int nc, .int nl])), (ca, .inr (0, [.ref ck, .ref cf, .ref cs, .ref ct, .int size])), (ck, .inl (cI, 12, .inl ki)), (cf, .inl (cI, 12, .inl fi)), (cs, .inl (cI, 12, .inl se)), (ct, .inl (cI, 12, .inl th))] sz)) (va_A [(mh, .inr (7, [.ref ca, .ref la, .ref sg, .ref pl, .ref rw, .ref tw, .ref ga, .ref pa, .int ni, .int li, .int mi, .int mv, .int nx, .int al, .int nc, .int nl])), (ca, .inr (0, [.ref ck, .ref cf, .ref cs, .ref ct, .int size])), (ck, .inl (cI, 12, .inl ki)), (cf, .inl (cI, 12, .inl fi)), (cs, .inl (cI, 12, .inl se)), (ct, .inl (cI, 12, .inl th))] sz)) 1 6 (va_A [(mh, .inr (7, [.ref ca, .ref la, .ref sg, .ref pl, .ref rw, .ref tw, .ref ga, .ref pa, .int ni, .int li, .int mi, .int mv, .int nx, .int al, .int nc, .int nl])), (ca, .inr (0, [.ref ck, .ref cf, .ref cs, .ref ct, .int size])), (ck, .inl (cI, 12, .inl ki)), (cf, .inl (cI, 12, .inl fi)), (cs, .inl (cI, 12, .inl se)), (ct, .inl (cI, 12, .inl th))] sz) := by
  refine va_MetW (cc := cL_does) (maxL := 7) (ret := (some .int)) (by decide) rfl ?_
  intro p e s m args below meth c s₁ B hml hv
  obtain ⟨rfl, hsz, hP, hK, hD0, hG⟩ := hv
  have hx := B.exec
  have hb := B.bytes
  have hr := B.returns
  have hts := atoms_spec (ws := wsL_does) B.pre
  have hown : s.vm.findClass RL = some m.cls := findClass_of_methodNamed B.named
  have hlocks := B.notSynchronized
  have htab := vx_table (x := yL_does) (y := yL_does) B (hts _ List.mem_cons_self)
  subst hsz
  have hD := hD0.self (sz := s.heap.size)
  generalize hAe : va_A [(mh, .inr (7, [.ref ca, .ref la, .ref sg, .ref pl, .ref rw, .ref tw, .ref ga, .ref pa, .int ni, .int li, .int mi, .int mv, .int nx, .int al, .int nc, .int nl])), (ca, .inr (0, [.ref ck, .ref cf, .ref cs, .ref ct, .int size])), (ck, .inl (cI, 12, .inl ki)), (cf, .inl (cI, 12, .inl fi)), (cs, .inl (cI, 12, .inl se)), (ct, .inl (cI, 12, .inl th))] s.heap.size = A at hD hG ⊢
  have hA : ∀ q : Nat, s.heap.size ≤ q → A q := fun q h => by rw [← hAe]; exact Or.inr h
  have hS : va_S A s.heap s.heap [] := va_S.rf
  have hP : va_P (dC, dI) vwCl [(mh, .inr (7, [.ref ca, .ref la, .ref sg, .ref pl, .ref rw, .ref tw, .ref ga, .ref pa, .int ni, .int li, .int mi, .int mv, .int nx, .int al, .int nc, .int nl])), (ca, .inr (0, [.ref ck, .ref cf, .ref cs, .ref ct, .int size])), (ck, .inl (cI, 12, .inl ki)), (cf, .inl (cI, 12, .inl fi)), (cs, .inl (cI, 12, .inl se)), (ct, .inl (cI, 12, .inl th))] s.heap := hP
  have hl := lv_entry ([.ref mh, .int (3 : Int32), .int p1, .int p2, .int p3, .int p4]) (n := 7) (Nat.le_of_ble_eq_true rfl)
  rw [lg_entry_eq]
  generalize (lg_sl ([.ref mh, .int (3 : Int32), .int p1, .int p2, .int p3, .int p4]) ++ List.replicate (7 - (lg_sl ([.ref mh, .int (3 : Int32), .int p1, .int p2, .int p3, .int p4])).length) Slot.unset).toArray = ls at hl ⊢
  have hl : lv_has ls 7 [(0, .ref mh), (1, .int (3 : Int32)), (2, .int p1), (3, .int p2), (4, .int p3), (5, .int p4)] := hl
  refine lv_iload_n hx hb dL_does_0 rfl (lv_at hl 1 rfl) ?_
  refine lv_if_ne (tgt := 32) hx hb dL_does_1 (by decide) (fun c_1 => ?_) (fun c_1 => ?_)
  · refine lv_iload_n hx hb dL_does_32 rfl (lv_at hl 1 rfl) ?_
    refine lv_iconst (v := 1) hx hb dL_does_33 (by decide) ?_
    refine lv_icmp_ne (tgt := 46) hx hb dL_does_34 (by decide) (fun c_2 => ?_) (fun c_2 => ?_)
    · refine lv_iload_n hx hb dL_does_46 rfl (lv_at hl 1 rfl) ?_
      refine lv_iconst (v := 2) hx hb dL_does_47 (by decide) ?_
      refine lv_icmp_ne (tgt := 64) hx hb dL_does_48 (by decide) (fun c_3 => ?_) (fun c_3 => ?_)
      · refine lv_iload_n hx hb dL_does_64 rfl (lv_at hl 1 rfl) ?_
        refine lv_iconst (v := 3) hx hb dL_does_65 (by decide) ?_
        refine lv_icmp_ne (tgt := 76) hx hb dL_does_66 (by decide) (fun c_4 => ?_) (fun c_4 => ?_)
        · exact absurd (show (3 : Int32) = (3 : Int32) from by decide) c_4
        · refine lv_aload_n hx hb dL_does_69 rfl (lv_at hl 0 rfl) ?_
          refine zxI (wr := []) (px := fun k9 => (xX7_tear ni li mi mv nx al nc nl ki fi se th size) = k9 ∧ k9 ≠ 0) (P0 := (xX7_tear ni li mi mv nx al nc nl ki fi se th size) = 0) (r0 := (rX7_tear ni li mi mv nx al nc nl ki fi se th size)) (u0 := ((oX7_tear_size ni li mi mv nx al nc nl ki fi se th size))) (vx_runV (As := []) (rest := []) ⟨hx, hb, hml, hown, hts⟩ (c_X7_tear l hfl dC dI cI cJ mh ca ck cf cs ct la sg pl rw tw ga pa s.heap.size ni li mi mv nx al nc nl ki fi se th size ) (cwV 0 hts gL_does_X7_tear rfl rfl rfl (by decide +kernel) ⟨Nat.le_of_ble_eq_true rfl, Nat.le_of_ble_eq_true rfl⟩) (zpV hK hP hD hS hA hG [0, 1, 2, 3, 4, 5] (by decide) rfl 7 0 rfl rfl) rfl rfl hl.1 rfl (lv_room (Nat.le_of_ble_eq_true rfl)) dL_does_70 ⟨Nat.le_of_ble_eq_true rfl, Nat.le_of_ble_eq_true rfl⟩) (fun r u h => ⟨h.1, h.2.1, h.2.2⟩) hP hD hS hA [0, 1, 2, 3, 4, 5] [] rfl rfl (by decide) (by decide) (fun k9 ce q9 H locs hw_5 hP hS hce hcv hcl => ?_) (fun H locs c_6 hP hD hS => ?_)
          · have hk9 : k9 = 3 := by have h := bxX7_tear ni li mi mv nx al nc nl ki fi se th size; omega
            subst hk9
            have c_6 : ¬ (xX7_tear ni li mi mv nx al nc nl ki fi se th size) = 0 := by rw [hw_5.1]; decide
            have c_7 : (xX7_tear ni li mi mv nx al nc nl ki fi se th size) = 3 := hw_5.1
            refine vx_catch (name := zXn 3) hown [⟨0, 326, 327, 82⟩, ⟨0, 326, 332, 85⟩] ⟨0, 326, 337, 88⟩ [] htab (fun z hz => by rcases (List.mem_cons.mp hz) with rfl | hz; exact Or.inr ⟨by decide, _, (hts _ kL_does_3_0), hG.1.2.2.1 _ (List.mem_of_getElem? (i := 1) rfl)⟩; rcases (List.mem_cons.mp hz) with rfl | hz; exact Or.inr ⟨by decide, _, (hts _ kL_does_3_1), hG.1.2.2.1 _ (List.mem_of_getElem? (i := 2) rfl)⟩; cases hz) (by decide) (by decide) (hts _ kL_does_3_2) (va_Nw.use rfl (hG.1.2.2.2.1 3)) hce hcv hcl ?_
            refine lv_astore (lv' := [(6, .ref q9), (0, .ref mh), (1, .int (3 : Int32)), (2, .int p1), (3, .int p2), (4, .int p3), (5, .int p4)]) hx hb dL_does_337 hl (by decide) rfl (fun ls hl => ?_)
            refine lv_ldc (v := -1000000) hx hb hown (hts _ kL_does_3_3) dL_does_339 ?_
            refine W.widen (k := 1) (n := 6) (by decide) (by decide) ?_
            exact W.iret (v := (-1000000 : Int32)) hx hb hr (fun t ht hW => ⟨⟨(-1000000 : Int32), (size), rfl, ⟨(by unfold rL_does_3; rw [if_neg c_6]), (by unfold oL_does_3_size; rw [if_neg c_6])⟩, (by rw [ht]; exact hP.sub [0, 1, 2, 3, 4, 5] rfl), va_K.moved hW.alike hK, hD.sub [0, 1, 2, 3, 4, 5] (by decide) rfl⟩, hS.F ht⟩) hS.2.2 dL_does_341
          · try dsimp only [List.cons_append, List.nil_append] at hP hD
            have hP : va_P (dC, dI) vwCl [(mh, .inr (7, [.ref ca, .ref la, .ref sg, .ref pl, .ref rw, .ref tw, .ref ga, .ref pa, .int ni, .int li, .int mi, .int mv, .int nx, .int al, .int nc, .int nl])), (ca, .inr (0, [.ref ck, .ref cf, .ref cs, .ref ct, .int (oX7_tear_size ni li mi mv nx al nc nl ki fi se th size)])), (ck, .inl (cI, 12, .inl ki)), (cf, .inl (cI, 12, .inl fi)), (cs, .inl (cI, 12, .inl se)), (ct, .inl (cI, 12, .inl th))] H := hP
            have hD : va_D A [(mh, .inr (7, [.ref ca, .ref la, .ref sg, .ref pl, .ref rw, .ref tw, .ref ga, .ref pa, .int ni, .int li, .int mi, .int mv, .int nx, .int al, .int nc, .int nl])), (ca, .inr (0, [.ref ck, .ref cf, .ref cs, .ref ct, .int (oX7_tear_size ni li mi mv nx al nc nl ki fi se th size)])), (ck, .inl (cI, 12, .inl ki)), (cf, .inl (cI, 12, .inl fi)), (cs, .inl (cI, 12, .inl se)), (ct, .inl (cI, 12, .inl th))] := hD
            refine lv_goto (tgt := 326) hx hb dL_does_73 (by decide) ?_
            refine W.widen (k := 1) (n := 6) (by decide) (by decide) ?_
            exact W.iret (v := (rX7_tear ni li mi mv nx al nc nl ki fi se th size)) hx hb hr (fun t ht hW => ⟨⟨(rX7_tear ni li mi mv nx al nc nl ki fi se th size), ((oX7_tear_size ni li mi mv nx al nc nl ki fi se th size)), rfl, ⟨(by unfold rL_does_3; rw [if_pos c_6]), (by unfold oL_does_3_size; rw [if_pos c_6])⟩, (by rw [ht]; exact hP.sub [0, 1, 2, 3, 4, 5] rfl), va_K.moved hW.alike hK, hD.sub [0, 1, 2, 3, 4, 5] (by decide) rfl⟩, hS.F ht⟩) hS.2.2 dL_does_326
      · exact absurd c_3 (by decide)
    · exact absurd c_2 (by decide)
  · exact absurd c_1 (by decide)

/-! L_does -/
def rL_does_4 (ni : Int32) (li : Int32) (mi : Int32) (mv : Int32) (nx : Int32) (al : Int32) (nc : Int32) (nl : Int32) (on : Int32) (il : Int32) (ba : Int32) (p1 : Int32) (p2 : Int32) (p3 : Int32) (p4 : Int32) : Int32 := (if (xX7_ill ni li mi mv nx al nc nl on il ba p1) = 0 then (if (rX7_ill ni li mi mv nx al nc nl on il ba p1) = 0 then (0 : Int32) else (1 : Int32)) else (-3000000 : Int32))
def oL_does_4_on (ni : Int32) (li : Int32) (mi : Int32) (mv : Int32) (nx : Int32) (al : Int32) (nc : Int32) (nl : Int32) (on : Int32) (il : Int32) (ba : Int32) (p1 : Int32) (p2 : Int32) (p3 : Int32) (p4 : Int32) : Int32 := (if (xX7_ill ni li mi mv nx al nc nl on il ba p1) = 0 then (oX7_ill_on ni li mi mv nx al nc nl on il ba p1) else on)
def oL_does_4_il (ni : Int32) (li : Int32) (mi : Int32) (mv : Int32) (nx : Int32) (al : Int32) (nc : Int32) (nl : Int32) (on : Int32) (il : Int32) (ba : Int32) (p1 : Int32) (p2 : Int32) (p3 : Int32) (p4 : Int32) : Int32 := (if (xX7_ill ni li mi mv nx al nc nl on il ba p1) = 0 then (oX7_ill_il ni li mi mv nx al nc nl on il ba p1) else il)
set_option maxRecDepth 20000 in
theorem kL_does_4_0 : Cond.classLink RL 82 "java/lang/IndexOutOfBoundsException" ∈ wsL_does := by decide +kernel
set_option maxRecDepth 20000 in
theorem kL_does_4_1 : Cond.constant RL 84 (-3000000) ∈ wsL_does := by decide +kernel
set_option maxHeartbeats 760000 in
set_option maxRecDepth 100000 in
theorem c_L_does_4 (l : Launch) (hfl : l.stackTraces = false) (dC : Nat → ClassId) (dI : Nat → Nat → Nat) (cI cJ : ClassId) (mh sg ca la pl rw tw ga pa lg : Nat) (sz : Nat) (ni : Int32) (li : Int32) (mi : Int32) (mv : Int32) (nx : Int32) (al : Int32) (nc : Int32) (nl : Int32) (on : Int32) (il : Int32) (ba : Int32) (p1 : Int32) (p2 : Int32) (p3 : Int32) (p4 : Int32) : Met l yL_does wsL_does ({ frames := 8, cells := 1, slots := 6, locals := 123 }) (va_Pc [.ref mh, .int (4 : Int32), .int p1, .int p2, .int p3, .int p4] (zI (dC, dI) [(cI, .int), (cJ, .long)] [(mh, .inr (7, [.ref ca, .ref la, .ref sg, .ref pl, .ref rw, .ref tw, .ref ga, .ref pa, .int ni, .int li, .int mi, .int mv, .int nx, .int al, .int nc, .int nl])), (sg, .inr (5, [.ref lg, .int on, .int il, .int ba]))] sz)) (va_Qi (fun (r : Int32) (u : (Int32) × (Int32)) => r = rL_does_4 ni li mi mv nx al nc nl on il ba p1 p2 p3 p4 ∧ u.1 = oL_does_4_on ni li mi mv nx al nc nl on il ba p1 p2 p3 p4 ∧ u.2 = oL_does_4_il ni li mi mv nx al nc nl on il ba p1 p2 p3 p4) (fun u => zO (dC, dI) [(cI, .int), (cJ, .long)] [(mh, .inr (7, [.ref ca, .ref la, .ref sg, .ref pl, .ref rw, .ref tw, .ref ga, .ref pa, .int ni, .int li, .int mi, .int mv, .int nx, .int al, .int nc, .int nl])), (sg, .inr (5, [.ref lg, .int u.1, .int u.2, .int ba]))] (va_A [(mh, .inr (7, [.ref ca, .ref la, .ref sg, .ref pl, .ref rw, .ref tw, .ref ga, .ref pa, .int ni, .int li, .int mi, .int mv, .int nx, .int al, .int nc, .int nl])), (sg, .inr (5, [.ref lg, .int on, .int il, .int ba]))] sz)) (va_A [(mh, .inr (7, [.ref ca, .ref la, .ref sg, .ref pl, .ref rw, .ref tw, .ref ga, .ref pa, .int ni, .int li, .int mi, .int mv, .int nx, .int al, .int nc, .int nl])), (sg, .inr (5, [.ref lg, .int on, .int il, .int ba]))] sz)) 1 6 (va_A [(mh, .inr (7, [.ref ca, .ref la, .ref sg, .ref pl, .ref rw, .ref tw, .ref ga, .ref pa, .int ni, .int li, .int mi, .int mv, .int nx, .int al, .int nc, .int nl])), (sg, .inr (5, [.ref lg, .int on, .int il, .int ba]))] sz) := by
  refine va_MetW (cc := cL_does) (maxL := 7) (ret := (some .int)) (by decide) rfl ?_
  intro p e s m args below meth c s₁ B hml hv
  obtain ⟨rfl, hsz, hP, hK, hD0, hG⟩ := hv
  have hx := B.exec
  have hb := B.bytes
  have hr := B.returns
  have hts := atoms_spec (ws := wsL_does) B.pre
  have hown : s.vm.findClass RL = some m.cls := findClass_of_methodNamed B.named
  have hlocks := B.notSynchronized
  have htab := vx_table (x := yL_does) (y := yL_does) B (hts _ List.mem_cons_self)
  subst hsz
  have hD := hD0.self (sz := s.heap.size)
  generalize hAe : va_A [(mh, .inr (7, [.ref ca, .ref la, .ref sg, .ref pl, .ref rw, .ref tw, .ref ga, .ref pa, .int ni, .int li, .int mi, .int mv, .int nx, .int al, .int nc, .int nl])), (sg, .inr (5, [.ref lg, .int on, .int il, .int ba]))] s.heap.size = A at hD hG ⊢
  have hA : ∀ q : Nat, s.heap.size ≤ q → A q := fun q h => by rw [← hAe]; exact Or.inr h
  have hS : va_S A s.heap s.heap [] := va_S.rf
  have hP : va_P (dC, dI) vwCl [(mh, .inr (7, [.ref ca, .ref la, .ref sg, .ref pl, .ref rw, .ref tw, .ref ga, .ref pa, .int ni, .int li, .int mi, .int mv, .int nx, .int al, .int nc, .int nl])), (sg, .inr (5, [.ref lg, .int on, .int il, .int ba]))] s.heap := hP
  have hl := lv_entry ([.ref mh, .int (4 : Int32), .int p1, .int p2, .int p3, .int p4]) (n := 7) (Nat.le_of_ble_eq_true rfl)
  rw [lg_entry_eq]
  generalize (lg_sl ([.ref mh, .int (4 : Int32), .int p1, .int p2, .int p3, .int p4]) ++ List.replicate (7 - (lg_sl ([.ref mh, .int (4 : Int32), .int p1, .int p2, .int p3, .int p4])).length) Slot.unset).toArray = ls at hl ⊢
  have hl : lv_has ls 7 [(0, .ref mh), (1, .int (4 : Int32)), (2, .int p1), (3, .int p2), (4, .int p3), (5, .int p4)] := hl
  refine lv_iload_n hx hb dL_does_0 rfl (lv_at hl 1 rfl) ?_
  refine lv_if_ne (tgt := 32) hx hb dL_does_1 (by decide) (fun c_1 => ?_) (fun c_1 => ?_)
  · refine lv_iload_n hx hb dL_does_32 rfl (lv_at hl 1 rfl) ?_
    refine lv_iconst (v := 1) hx hb dL_does_33 (by decide) ?_
    refine lv_icmp_ne (tgt := 46) hx hb dL_does_34 (by decide) (fun c_2 => ?_) (fun c_2 => ?_)
    · refine lv_iload_n hx hb dL_does_46 rfl (lv_at hl 1 rfl) ?_
      refine lv_iconst (v := 2) hx hb dL_does_47 (by decide) ?_
      refine lv_icmp_ne (tgt := 64) hx hb dL_does_48 (by decide) (fun c_3 => ?_) (fun c_3 => ?_)
      · refine lv_iload_n hx hb dL_does_64 rfl (lv_at hl 1 rfl) ?_
        refine lv_iconst (v := 3) hx hb dL_does_65 (by decide) ?_
        refine lv_icmp_ne (tgt := 76) hx hb dL_does_66 (by decide) (fun c_4 => ?_) (fun c_4 => ?_)
        · refine lv_iload_n hx hb dL_does_76 rfl (lv_at hl 1 rfl) ?_
          refine lv_iconst (v := 4) hx hb dL_does_77 (by decide) ?_
          refine lv_icmp_ne (tgt := 97) hx hb dL_does_78 (by decide) (fun c_5 => ?_) (fun c_5 => ?_)
          · exact absurd (show (4 : Int32) = (4 : Int32) from by decide) c_5
          · refine lv_aload_n hx hb dL_does_81 rfl (lv_at hl 0 rfl) ?_
            refine lv_iload_n hx hb dL_does_82 rfl (lv_at hl 2 rfl) ?_
            refine zxI (wr := []) (px := fun k9 => (xX7_ill ni li mi mv nx al nc nl on il ba p1) = k9 ∧ k9 ≠ 0) (P0 := (xX7_ill ni li mi mv nx al nc nl on il ba p1) = 0) (r0 := (rX7_ill ni li mi mv nx al nc nl on il ba p1)) (u0 := ((oX7_ill_on ni li mi mv nx al nc nl on il ba p1), (oX7_ill_il ni li mi mv nx al nc nl on il ba p1))) (vx_runV (As := [.int p1]) (rest := []) ⟨hx, hb, hml, hown, hts⟩ (c_X7_ill l hfl dC dI cI cJ mh sg ca la pl rw tw ga pa lg s.heap.size ni li mi mv nx al nc nl on il ba p1 ) (cwV 1 hts gL_does_X7_ill rfl rfl rfl (by decide +kernel) ⟨Nat.le_of_ble_eq_true rfl, Nat.le_of_ble_eq_true rfl⟩) (zpV hK hP hD hS hA hG [0, 1] (by decide) rfl 7 0 rfl rfl) rfl rfl hl.1 rfl (lv_room (Nat.le_of_ble_eq_true rfl)) dL_does_83 ⟨Nat.le_of_ble_eq_true rfl, Nat.le_of_ble_eq_true rfl⟩) (fun r u h => ⟨h.1, h.2.1, zT2 h.2.2.1 h.2.2.2⟩) hP hD hS hA [0, 1] [] rfl rfl (by decide) (by decide) (fun k9 ce q9 H locs hw_6 hP hS hce hcv hcl => ?_) (fun H locs c_7 hP hD hS => ?_)
            · have hk9 : k9 = 1 := by have h := bxX7_ill ni li mi mv nx al nc nl on il ba p1; omega
              subst hk9
              have c_7 : ¬ (xX7_ill ni li mi mv nx al nc nl on il ba p1) = 0 := by rw [hw_6.1]; decide
              have c_8 : (xX7_ill ni li mi mv nx al nc nl on il ba p1) = 1 := hw_6.1
              refine vx_catch (name := zXn 1) hown [] ⟨0, 326, 327, 82⟩ [⟨0, 326, 332, 85⟩, ⟨0, 326, 337, 88⟩] htab (fun z hz => by cases hz) (by decide) (by decide) (hts _ kL_does_4_0) (va_Nw.use rfl (hG.1.2.2.2.1 1)) hce hcv hcl ?_
              refine lv_astore (lv' := [(6, .ref q9), (0, .ref mh), (1, .int (4 : Int32)), (2, .int p1), (3, .int p2), (4, .int p3), (5, .int p4)]) hx hb dL_does_327 hl (by decide) rfl (fun ls hl => ?_)
              refine lv_ldc (v := -3000000) hx hb hown (hts _ kL_does_4_1) dL_does_329 ?_
              refine W.widen (k := 1) (n := 6) (by decide) (by decide) ?_
              exact W.iret (v := (-3000000 : Int32)) hx hb hr (fun t ht hW => ⟨⟨(-3000000 : Int32), (on, il), rfl, ⟨(by unfold rL_does_4; rw [if_neg c_7]), (by unfold oL_does_4_on; rw [if_neg c_7]), (by unfold oL_does_4_il; rw [if_neg c_7])⟩, (by rw [ht]; exact hP.sub [0, 1] rfl), va_K.moved hW.alike hK, hD.sub [0, 1] (by decide) rfl⟩, hS.F ht⟩) hS.2.2 dL_does_331
            · try dsimp only [List.cons_append, List.nil_append] at hP hD
              have hP : va_P (dC, dI) vwCl [(mh, .inr (7, [.ref ca, .ref la, .ref sg, .ref pl, .ref rw, .ref tw, .ref ga, .ref pa, .int ni, .int li, .int mi, .int mv, .int nx, .int al, .int nc, .int nl])), (sg, .inr (5, [.ref lg, .int (oX7_ill_on ni li mi mv nx al nc nl on il ba p1), .int (oX7_ill_il ni li mi mv nx al nc nl on il ba p1), .int ba]))] H := hP
              have hD : va_D A [(mh, .inr (7, [.ref ca, .ref la, .ref sg, .ref pl, .ref rw, .ref tw, .ref ga, .ref pa, .int ni, .int li, .int mi, .int mv, .int nx, .int al, .int nc, .int nl])), (sg, .inr (5, [.ref lg, .int (oX7_ill_on ni li mi mv nx al nc nl on il ba p1), .int (oX7_ill_il ni li mi mv nx al nc nl on il ba p1), .int ba]))] := hD
              refine lv_if_eq (tgt := 93) hx hb dL_does_86 (by decide) (fun c_9 => ?_) (fun c_9 => ?_)
              · refine lv_iconst (v := 0) hx hb dL_does_93 (by decide) ?_
                refine lv_goto (tgt := 326) hx hb dL_does_94 (by decide) ?_
                refine W.widen (k := 1) (n := 6) (by decide) (by decide) ?_
                exact W.iret (v := (0 : Int32)) hx hb hr (fun t ht hW => ⟨⟨(0 : Int32), ((oX7_ill_on ni li mi mv nx al nc nl on il ba p1), (oX7_ill_il ni li mi mv nx al nc nl on il ba p1)), rfl, ⟨(by unfold rL_does_4; rw [if_pos c_7, if_pos c_9]), (by unfold oL_does_4_on; rw [if_pos c_7]), (by unfold oL_does_4_il; rw [if_pos c_7])⟩, (by rw [ht]; exact hP.sub [0, 1] rfl), va_K.moved hW.alike hK, hD.sub [0, 1] (by decide) rfl⟩, hS.F ht⟩) hS.2.2 dL_does_326
              · refine lv_iconst (v := 1) hx hb dL_does_89 (by decide) ?_
                refine lv_goto (tgt := 326) hx hb dL_does_90 (by decide) ?_
                refine W.widen (k := 1) (n := 6) (by decide) (by decide) ?_
                exact W.iret (v := (1 : Int32)) hx hb hr (fun t ht hW => ⟨⟨(1 : Int32), ((oX7_ill_on ni li mi mv nx al nc nl on il ba p1), (oX7_ill_il ni li mi mv nx al nc nl on il ba p1)), rfl, ⟨(by unfold rL_does_4; rw [if_pos c_7, if_neg c_9]), (by unfold oL_does_4_on; rw [if_pos c_7]), (by unfold oL_does_4_il; rw [if_pos c_7])⟩, (by rw [ht]; exact hP.sub [0, 1] rfl), va_K.moved hW.alike hK, hD.sub [0, 1] (by decide) rfl⟩, hS.F ht⟩) hS.2.2 dL_does_326
        · exact absurd c_4 (by decide)
      · exact absurd c_3 (by decide)
    · exact absurd c_2 (by decide)
  · exact absurd c_1 (by decide)

/-! L_does -/
def rL_does_5 (ni : Int32) (li : Int32) (mi : Int32) (mv : Int32) (nx : Int32) (al : Int32) (nc : Int32) (nl : Int32) (on : Int32) (il : Int32) (ba : Int32) (p1 : Int32) (p2 : Int32) (p3 : Int32) (p4 : Int32) : Int32 := (if (xX7_ban ni li mi mv nx al nc nl on il ba p1) = 0 then (if (rX7_ban ni li mi mv nx al nc nl on il ba p1) = 0 then (0 : Int32) else (1 : Int32)) else (-3000000 : Int32))
def oL_does_5_ba (ni : Int32) (li : Int32) (mi : Int32) (mv : Int32) (nx : Int32) (al : Int32) (nc : Int32) (nl : Int32) (on : Int32) (il : Int32) (ba : Int32) (p1 : Int32) (p2 : Int32) (p3 : Int32) (p4 : Int32) : Int32 := (if (xX7_ban ni li mi mv nx al nc nl on il ba p1) = 0 then (oX7_ban_ba ni li mi mv nx al nc nl on il ba p1) else ba)
set_option maxRecDepth 20000 in
theorem kL_does_5_0 : Cond.classLink RL 82 "java/lang/IndexOutOfBoundsException" ∈ wsL_does := by decide +kernel
set_option maxRecDepth 20000 in
theorem kL_does_5_1 : Cond.constant RL 84 (-3000000) ∈ wsL_does := by decide +kernel
set_option maxHeartbeats 820000 in
set_option maxRecDepth 100000 in
theorem c_L_does_5 (l : Launch) (hfl : l.stackTraces = false) (dC : Nat → ClassId) (dI : Nat → Nat → Nat) (cI cJ : ClassId) (mh sg ca la pl rw tw ga pa lg : Nat) (sz : Nat) (ni : Int32) (li : Int32) (mi : Int32) (mv : Int32) (nx : Int32) (al : Int32) (nc : Int32) (nl : Int32) (on : Int32) (il : Int32) (ba : Int32) (p1 : Int32) (p2 : Int32) (p3 : Int32) (p4 : Int32) : Met l yL_does wsL_does ({ frames := 8, cells := 1, slots := 6, locals := 123 }) (va_Pc [.ref mh, .int (5 : Int32), .int p1, .int p2, .int p3, .int p4] (zI (dC, dI) [(cI, .int), (cJ, .long)] [(mh, .inr (7, [.ref ca, .ref la, .ref sg, .ref pl, .ref rw, .ref tw, .ref ga, .ref pa, .int ni, .int li, .int mi, .int mv, .int nx, .int al, .int nc, .int nl])), (sg, .inr (5, [.ref lg, .int on, .int il, .int ba]))] sz)) (va_Qi (fun (r : Int32) (u : (Int32)) => r = rL_does_5 ni li mi mv nx al nc nl on il ba p1 p2 p3 p4 ∧ u = oL_does_5_ba ni li mi mv nx al nc nl on il ba p1 p2 p3 p4) (fun u => zO (dC, dI) [(cI, .int), (cJ, .long)] [(mh, .inr (7, [.ref ca, .ref la, .ref sg, .ref pl, .ref rw, .ref tw, .ref ga, .ref pa, .int ni, .int li, .int mi, .int mv, .int nx, .int al, .int nc, .int nl])), (sg, .inr (5, [.ref lg, .int on, .int il, .int u]))] (va_A [(mh, .inr (7, [.ref ca, .ref la, .ref sg, .ref pl, .ref rw, .ref tw, .ref ga, .ref pa, .int ni, .int li, .int mi, .int mv, .int nx, .int al, .int nc, .int nl])), (sg, .inr (5, [.ref lg, .int on, .int il, .int ba]))] sz)) (va_A [(mh, .inr (7, [.ref ca, .ref la, .ref sg, .ref pl, .ref rw, .ref tw, .ref ga, .ref pa, .int ni, .int li, .int mi, .int mv, .int nx, .int al, .int nc, .int nl])), (sg, .inr (5, [.ref lg, .int on, .int il, .int ba]))] sz)) 1 6 (va_A [(mh, .inr (7, [.ref ca, .ref la, .ref sg, .ref pl, .ref rw, .ref tw, .ref ga, .ref pa, .int ni, .int li, .int mi, .int mv, .int nx, .int al, .int nc, .int nl])), (sg, .inr (5, [.ref lg, .int on, .int il, .int ba]))] sz) := by
  refine va_MetW (cc := cL_does) (maxL := 7) (ret := (some .int)) (by decide) rfl ?_
  intro p e s m args below meth c s₁ B hml hv
  obtain ⟨rfl, hsz, hP, hK, hD0, hG⟩ := hv
  have hx := B.exec
  have hb := B.bytes
  have hr := B.returns
  have hts := atoms_spec (ws := wsL_does) B.pre
  have hown : s.vm.findClass RL = some m.cls := findClass_of_methodNamed B.named
  have hlocks := B.notSynchronized
  have htab := vx_table (x := yL_does) (y := yL_does) B (hts _ List.mem_cons_self)
  subst hsz
  have hD := hD0.self (sz := s.heap.size)
  generalize hAe : va_A [(mh, .inr (7, [.ref ca, .ref la, .ref sg, .ref pl, .ref rw, .ref tw, .ref ga, .ref pa, .int ni, .int li, .int mi, .int mv, .int nx, .int al, .int nc, .int nl])), (sg, .inr (5, [.ref lg, .int on, .int il, .int ba]))] s.heap.size = A at hD hG ⊢
  have hA : ∀ q : Nat, s.heap.size ≤ q → A q := fun q h => by rw [← hAe]; exact Or.inr h
  have hS : va_S A s.heap s.heap [] := va_S.rf
  have hP : va_P (dC, dI) vwCl [(mh, .inr (7, [.ref ca, .ref la, .ref sg, .ref pl, .ref rw, .ref tw, .ref ga, .ref pa, .int ni, .int li, .int mi, .int mv, .int nx, .int al, .int nc, .int nl])), (sg, .inr (5, [.ref lg, .int on, .int il, .int ba]))] s.heap := hP
  have hl := lv_entry ([.ref mh, .int (5 : Int32), .int p1, .int p2, .int p3, .int p4]) (n := 7) (Nat.le_of_ble_eq_true rfl)
  rw [lg_entry_eq]
  generalize (lg_sl ([.ref mh, .int (5 : Int32), .int p1, .int p2, .int p3, .int p4]) ++ List.replicate (7 - (lg_sl ([.ref mh, .int (5 : Int32), .int p1, .int p2, .int p3, .int p4])).length) Slot.unset).toArray = ls at hl ⊢
  have hl : lv_has ls 7 [(0, .ref mh), (1, .int (5 : Int32)), (2, .int p1), (3, .int p2), (4, .int p3), (5, .int p4)] := hl
  refine lv_iload_n hx hb dL_does_0 rfl (lv_at hl 1 rfl) ?_
  refine lv_if_ne (tgt := 32) hx hb dL_does_1 (by decide) (fun c_1 => ?_) (fun c_1 => ?_)
  · refine lv_iload_n hx hb dL_does_32 rfl (lv_at hl 1 rfl) ?_
    refine lv_iconst (v := 1) hx hb dL_does_33 (by decide) ?_
    refine lv_icmp_ne (tgt := 46) hx hb dL_does_34 (by decide) (fun c_2 => ?_) (fun c_2 => ?_)
    · refine lv_iload_n hx hb dL_does_46 rfl (lv_at hl 1 rfl) ?_
      refine lv_iconst (v := 2) hx hb dL_does_47 (by decide) ?_
      refine lv_icmp_ne (tgt := 64) hx hb dL_does_48 (by decide) (fun c_3 => ?_) (fun c_3 => ?_)
      · refine lv_iload_n hx hb dL_does_64 rfl (lv_at hl 1 rfl) ?_
        refine lv_iconst (v := 3) hx hb dL_does_65 (by decide) ?_
        refine lv_icmp_ne (tgt := 76) hx hb dL_does_66 (by decide) (fun c_4 => ?_) (fun c_4 => ?_)
        · refine lv_iload_n hx hb dL_does_76 rfl (lv_at hl 1 rfl) ?_
          refine lv_iconst (v := 4) hx hb dL_does_77 (by decide) ?_
          refine lv_icmp_ne (tgt := 97) hx hb dL_does_78 (by decide) (fun c_5 => ?_) (fun c_5 => ?_)
          · refine lv_iload_n hx hb dL_does_97 rfl (lv_at hl 1 rfl) ?_
            refine lv_iconst (v := 5) hx hb dL_does_98 (by decide) ?_
            refine lv_icmp_ne (tgt := 118) hx hb dL_does_99 (by decide) (fun c_6 => ?_) (fun c_6 => ?_)
            · exact absurd (show (5 : Int32) = (5 : Int32) from by decide) c_6
            · refine lv_aload_n hx hb dL_does_102 rfl (lv_at hl 0 rfl) ?_
              refine lv_iload_n hx hb dL_does_103 rfl (lv_at hl 2 rfl) ?_
              refine zxI (wr := []) (px := fun k9 => (xX7_ban ni li mi mv nx al nc nl on il ba p1) = k9 ∧ k9 ≠ 0) (P0 := (xX7_ban ni li mi mv nx al nc nl on il ba p1) = 0) (r0 := (rX7_ban ni li mi mv nx al nc nl on il ba p1)) (u0 := ((oX7_ban_ba ni li mi mv nx al nc nl on il ba p1))) (vx_runV (As := [.int p1]) (rest := []) ⟨hx, hb, hml, hown, hts⟩ (c_X7_ban l hfl dC dI cI cJ mh sg ca la pl rw tw ga pa lg s.heap.size ni li mi mv nx al nc nl on il ba p1 ) (cwV 1 hts gL_does_X7_ban rfl rfl rfl (by decide +kernel) ⟨Nat.le_of_ble_eq_true rfl, Nat.le_of_ble_eq_true rfl⟩) (zpV hK hP hD hS hA hG [0, 1] (by decide) rfl 7 0 rfl rfl) rfl rfl hl.1 rfl (lv_room (Nat.le_of_ble_eq_true rfl)) dL_does_104 ⟨Nat.le_of_ble_eq_true rfl, Nat.le_of_ble_eq_true rfl⟩) (fun r u h => ⟨h.1, h.2.1, h.2.2⟩) hP hD hS hA [0, 1] [] rfl rfl (by decide) (by decide) (fun k9 ce q9 H locs hw_7 hP hS hce hcv hcl => ?_) (fun H locs c_8 hP hD hS => ?_)
              · have hk9 : k9 = 1 := by have h := bxX7_ban ni li mi mv nx al nc nl on il ba p1; omega
                subst hk9
                have c_8 : ¬ (xX7_ban ni li mi mv nx al nc nl on il ba p1) = 0 := by rw [hw_7.1]; decide
                have c_9 : (xX7_ban ni li mi mv nx al nc nl on il ba p1) = 1 := hw_7.1
                refine vx_catch (name := zXn 1) hown [] ⟨0, 326, 327, 82⟩ [⟨0, 326, 332, 85⟩, ⟨0, 326, 337, 88⟩] htab (fun z hz => by cases hz) (by decide) (by decide) (hts _ kL_does_5_0) (va_Nw.use rfl (hG.1.2.2.2.1 1)) hce hcv hcl ?_
                refine lv_astore (lv' := [(6, .ref q9), (0, .ref mh), (1, .int (5 : Int32)), (2, .int p1), (3, .int p2), (4, .int p3), (5, .int p4)]) hx hb dL_does_327 hl (by decide) rfl (fun ls hl => ?_)
                refine lv_ldc (v := -3000000) hx hb hown (hts _ kL_does_5_1) dL_does_329 ?_
                refine W.widen (k := 1) (n := 6) (by decide) (by decide) ?_
                exact W.iret (v := (-3000000 : Int32)) hx hb hr (fun t ht hW => ⟨⟨(-3000000 : Int32), (ba), rfl, ⟨(by unfold rL_does_5; rw [if_neg c_8]), (by unfold oL_does_5_ba; rw [if_neg c_8])⟩, (by rw [ht]; exact hP.sub [0, 1] rfl), va_K.moved hW.alike hK, hD.sub [0, 1] (by decide) rfl⟩, hS.F ht⟩) hS.2.2 dL_does_331
              · try dsimp only [List.cons_append, List.nil_append] at hP hD
                have hP : va_P (dC, dI) vwCl [(mh, .inr (7, [.ref ca, .ref la, .ref sg, .ref pl, .ref rw, .ref tw, .ref ga, .ref pa, .int ni, .int li, .int mi, .int mv, .int nx, .int al, .int nc, .int nl])), (sg, .inr (5, [.ref lg, .int on, .int il, .int (oX7_ban_ba ni li mi mv nx al nc nl on il ba p1)]))] H := hP
                have hD : va_D A [(mh, .inr (7, [.ref ca, .ref la, .ref sg, .ref pl, .ref rw, .ref tw, .ref ga, .ref pa, .int ni, .int li, .int mi, .int mv, .int nx, .int al, .int nc, .int nl])), (sg, .inr (5, [.ref lg, .int on, .int il, .int (oX7_ban_ba ni li mi mv nx al nc nl on il ba p1)]))] := hD
                refine lv_if_eq (tgt := 114) hx hb dL_does_107 (by decide) (fun c_10 => ?_) (fun c_10 => ?_)
                · refine lv_iconst (v := 0) hx hb dL_does_114 (by decide) ?_
                  refine lv_goto (tgt := 326) hx hb dL_does_115 (by decide) ?_
                  refine W.widen (k := 1) (n := 6) (by decide) (by decide) ?_
                  exact W.iret (v := (0 : Int32)) hx hb hr (fun t ht hW => ⟨⟨(0 : Int32), ((oX7_ban_ba ni li mi mv nx al nc nl on il ba p1)), rfl, ⟨(by unfold rL_does_5; rw [if_pos c_8, if_pos c_10]), (by unfold oL_does_5_ba; rw [if_pos c_8])⟩, (by rw [ht]; exact hP.sub [0, 1] rfl), va_K.moved hW.alike hK, hD.sub [0, 1] (by decide) rfl⟩, hS.F ht⟩) hS.2.2 dL_does_326
                · refine lv_iconst (v := 1) hx hb dL_does_110 (by decide) ?_
                  refine lv_goto (tgt := 326) hx hb dL_does_111 (by decide) ?_
                  refine W.widen (k := 1) (n := 6) (by decide) (by decide) ?_
                  exact W.iret (v := (1 : Int32)) hx hb hr (fun t ht hW => ⟨⟨(1 : Int32), ((oX7_ban_ba ni li mi mv nx al nc nl on il ba p1)), rfl, ⟨(by unfold rL_does_5; rw [if_pos c_8, if_neg c_10]), (by unfold oL_does_5_ba; rw [if_pos c_8])⟩, (by rw [ht]; exact hP.sub [0, 1] rfl), va_K.moved hW.alike hK, hD.sub [0, 1] (by decide) rfl⟩, hS.F ht⟩) hS.2.2 dL_does_326
          · exact absurd c_5 (by decide)
        · exact absurd c_4 (by decide)
      · exact absurd c_3 (by decide)
    · exact absurd c_2 (by decide)
  · exact absurd c_1 (by decide)

/-! L_does -/
def rL_does_6 (ni : Int32) (li : Int32) (mi : Int32) (mv : Int32) (nx : Int32) (al : Int32) (nc : Int32) (nl : Int32) (on : Int32) (il : Int32) (ba : Int32) (le : Nat → Int32) (wi : Nat → Int32) (pr : Nat → Int32) (tp : Nat → Int32) (gs : Int32) (p1 : Int32) (p2 : Int32) (p3 : Int32) (p4 : Int32) : Int32 := (if (xL_travelled ni li mi mv nx al nc nl on il ba le wi pr tp gs) = 0 then (rL_travelled ni li mi mv nx al nc nl on il ba le wi pr tp gs) else (-1000000 : Int32))
def oL_does_6_ba (ni : Int32) (li : Int32) (mi : Int32) (mv : Int32) (nx : Int32) (al : Int32) (nc : Int32) (nl : Int32) (on : Int32) (il : Int32) (ba : Int32) (le : Nat → Int32) (wi : Nat → Int32) (pr : Nat → Int32) (tp : Nat → Int32) (gs : Int32) (p1 : Int32) (p2 : Int32) (p3 : Int32) (p4 : Int32) : Int32 := (if (xL_travelled ni li mi mv nx al nc nl on il ba le wi pr tp gs) = 0 then (oL_travelled_ba ni li mi mv nx al nc nl on il ba le wi pr tp gs) else ba)
def oL_does_6_tp (ni : Int32) (li : Int32) (mi : Int32) (mv : Int32) (nx : Int32) (al : Int32) (nc : Int32) (nl : Int32) (on : Int32) (il : Int32) (ba : Int32) (le : Nat → Int32) (wi : Nat → Int32) (pr : Nat → Int32) (tp : Nat → Int32) (gs : Int32) (p1 : Int32) (p2 : Int32) (p3 : Int32) (p4 : Int32) : Nat → Int32 := (if (xL_travelled ni li mi mv nx al nc nl on il ba le wi pr tp gs) = 0 then (oL_travelled_tp ni li mi mv nx al nc nl on il ba le wi pr tp gs) else tp)
set_option maxRecDepth 20000 in
theorem kL_does_6_0 : Cond.classLink RL 82 "java/lang/IndexOutOfBoundsException" ∈ wsL_does := by decide +kernel
set_option maxRecDepth 20000 in
theorem kL_does_6_1 : Cond.classLink RL 85 "java/lang/IllegalArgumentException" ∈ wsL_does := by decide +kernel
set_option maxRecDepth 20000 in
theorem kL_does_6_2 : Cond.classLink RL 88 "java/lang/IllegalStateException" ∈ wsL_does := by decide +kernel
set_option maxRecDepth 20000 in
theorem kL_does_6_3 : Cond.constant RL 90 (-1000000) ∈ wsL_does := by decide +kernel
set_option maxHeartbeats 760000 in
set_option maxRecDepth 100000 in
theorem c_L_does_6 (l : Launch) (hfl : l.stackTraces = false) (dC : Nat → ClassId) (dI : Nat → Nat → Nat) (cI cJ : ClassId) (mh sg ga gl gw gp gt ca la pl rw tw pa lg : Nat) (sz : Nat) (ni : Int32) (li : Int32) (mi : Int32) (mv : Int32) (nx : Int32) (al : Int32) (nc : Int32) (nl : Int32) (on : Int32) (il : Int32) (ba : Int32) (le : Nat → Int32) (wi : Nat → Int32) (pr : Nat → Int32) (tp : Nat → Int32) (gs : Int32) (p1 : Int32) (p2 : Int32) (p3 : Int32) (p4 : Int32) : Met l yL_does wsL_does ({ frames := 9, cells := 1, slots := 6, locals := 142 }) (va_Pc [.ref mh, .int (6 : Int32), .int p1, .int p2, .int p3, .int p4] (zI (dC, dI) [(cI, .int), (cJ, .long)] [(mh, .inr (7, [.ref ca, .ref la, .ref sg, .ref pl, .ref rw, .ref tw, .ref ga, .ref pa, .int ni, .int li, .int mi, .int mv, .int nx, .int al, .int nc, .int nl])), (sg, .inr (5, [.ref lg, .int on, .int il, .int ba])), (ga, .inr (1, [.ref gl, .ref gw, .ref gp, .ref gt, .int gs])), (gl, .inl (cI, 6, .inl le)), (gw, .inl (cI, 6, .inl wi)), (gp, .inl (cI, 6, .inl pr)), (gt, .inl (cI, 6, .inl tp))] sz)) (va_Qi (fun (r : Int32) (u : (Int32) × (Nat → Int32)) => r = rL_does_6 ni li mi mv nx al nc nl on il ba le wi pr tp gs p1 p2 p3 p4 ∧ u.1 = oL_does_6_ba ni li mi mv nx al nc nl on il ba le wi pr tp gs p1 p2 p3 p4 ∧ u.2 = oL_does_6_tp ni li mi mv nx al nc nl on il ba le wi pr tp gs p1 p2 p3 p4) (fun u => zO (dC, dI) [(cI, .int), (cJ, .long)] [(mh, .inr (7, [.ref ca, .ref la, .ref sg, .ref pl, .ref rw, .ref tw, .ref ga, .ref pa, .int ni, .int li, .int mi, .int mv, .int nx, .int al, .int nc, .int nl])), (sg, .inr (5, [.ref lg, .int on, .int il, .int u.1])), (ga, .inr (1, [.ref gl, .ref gw, .ref gp, .ref gt, .int gs])), (gl, .inl (cI, 6, .inl le)), (gw, .inl (cI, 6, .inl wi)), (gp, .inl (cI, 6, .inl pr)), (gt, .inl (cI, 6, .inl u.2))] (va_A [(mh, .inr (7, [.ref ca, .ref la, .ref sg, .ref pl, .ref rw, .ref tw, .ref ga, .ref pa, .int ni, .int li, .int mi, .int mv, .int nx, .int al, .int nc, .int nl])), (sg, .inr (5, [.ref lg, .int on, .int il, .int ba])), (ga, .inr (1, [.ref gl, .ref gw, .ref gp, .ref gt, .int gs])), (gl, .inl (cI, 6, .inl le)), (gw, .inl (cI, 6, .inl wi)), (gp, .inl (cI, 6, .inl pr)), (gt, .inl (cI, 6, .inl tp))] sz)) (va_A [(mh, .inr (7, [.ref ca, .ref la, .ref sg, .ref pl, .ref rw, .ref tw, .ref ga, .ref pa, .int ni, .int li, .int mi, .int mv, .int nx, .int al, .int nc, .int nl])), (sg, .inr (5, [.ref lg, .int on, .int il, .int ba])), (ga, .inr (1, [.ref gl, .ref gw, .ref gp, .ref gt, .int gs])), (gl, .inl (cI, 6, .inl le)), (gw, .inl (cI, 6, .inl wi)), (gp, .inl (cI, 6, .inl pr)), (gt, .inl (cI, 6, .inl tp))] sz)) 1 6 (va_A [(mh, .inr (7, [.ref ca, .ref la, .ref sg, .ref pl, .ref rw, .ref tw, .ref ga, .ref pa, .int ni, .int li, .int mi, .int mv, .int nx, .int al, .int nc, .int nl])), (sg, .inr (5, [.ref lg, .int on, .int il, .int ba])), (ga, .inr (1, [.ref gl, .ref gw, .ref gp, .ref gt, .int gs])), (gl, .inl (cI, 6, .inl le)), (gw, .inl (cI, 6, .inl wi)), (gp, .inl (cI, 6, .inl pr)), (gt, .inl (cI, 6, .inl tp))] sz) := by
  refine va_MetW (cc := cL_does) (maxL := 7) (ret := (some .int)) (by decide) rfl ?_
  intro p e s m args below meth c s₁ B hml hv
  obtain ⟨rfl, hsz, hP, hK, hD0, hG⟩ := hv
  have hx := B.exec
  have hb := B.bytes
  have hr := B.returns
  have hts := atoms_spec (ws := wsL_does) B.pre
  have hown : s.vm.findClass RL = some m.cls := findClass_of_methodNamed B.named
  have hlocks := B.notSynchronized
  have htab := vx_table (x := yL_does) (y := yL_does) B (hts _ List.mem_cons_self)
  subst hsz
  have hD := hD0.self (sz := s.heap.size)
  generalize hAe : va_A [(mh, .inr (7, [.ref ca, .ref la, .ref sg, .ref pl, .ref rw, .ref tw, .ref ga, .ref pa, .int ni, .int li, .int mi, .int mv, .int nx, .int al, .int nc, .int nl])), (sg, .inr (5, [.ref lg, .int on, .int il, .int ba])), (ga, .inr (1, [.ref gl, .ref gw, .ref gp, .ref gt, .int gs])), (gl, .inl (cI, 6, .inl le)), (gw, .inl (cI, 6, .inl wi)), (gp, .inl (cI, 6, .inl pr)), (gt, .inl (cI, 6, .inl tp))] s.heap.size = A at hD hG ⊢
  have hA : ∀ q : Nat, s.heap.size ≤ q → A q := fun q h => by rw [← hAe]; exact Or.inr h
  have hS : va_S A s.heap s.heap [] := va_S.rf
  have hP : va_P (dC, dI) vwCl [(mh, .inr (7, [.ref ca, .ref la, .ref sg, .ref pl, .ref rw, .ref tw, .ref ga, .ref pa, .int ni, .int li, .int mi, .int mv, .int nx, .int al, .int nc, .int nl])), (sg, .inr (5, [.ref lg, .int on, .int il, .int ba])), (ga, .inr (1, [.ref gl, .ref gw, .ref gp, .ref gt, .int gs])), (gl, .inl (cI, 6, .inl le)), (gw, .inl (cI, 6, .inl wi)), (gp, .inl (cI, 6, .inl pr)), (gt, .inl (cI, 6, .inl tp))] s.heap := hP
  have hl := lv_entry ([.ref mh, .int (6 : Int32), .int p1, .int p2, .int p3, .int p4]) (n := 7) (Nat.le_of_ble_eq_true rfl)
  rw [lg_entry_eq]
  generalize (lg_sl ([.ref mh, .int (6 : Int32), .int p1, .int p2, .int p3, .int p4]) ++ List.replicate (7 - (lg_sl ([.ref mh, .int (6 : Int32), .int p1, .int p2, .int p3, .int p4])).length) Slot.unset).toArray = ls at hl ⊢
  have hl : lv_has ls 7 [(0, .ref mh), (1, .int (6 : Int32)), (2, .int p1), (3, .int p2), (4, .int p3), (5, .int p4)] := hl
  refine lv_iload_n hx hb dL_does_0 rfl (lv_at hl 1 rfl) ?_
  refine lv_if_ne (tgt := 32) hx hb dL_does_1 (by decide) (fun c_1 => ?_) (fun c_1 => ?_)
  · refine lv_iload_n hx hb dL_does_32 rfl (lv_at hl 1 rfl) ?_
    refine lv_iconst (v := 1) hx hb dL_does_33 (by decide) ?_
    refine lv_icmp_ne (tgt := 46) hx hb dL_does_34 (by decide) (fun c_2 => ?_) (fun c_2 => ?_)
    · refine lv_iload_n hx hb dL_does_46 rfl (lv_at hl 1 rfl) ?_
      refine lv_iconst (v := 2) hx hb dL_does_47 (by decide) ?_
      refine lv_icmp_ne (tgt := 64) hx hb dL_does_48 (by decide) (fun c_3 => ?_) (fun c_3 => ?_)
      · refine lv_iload_n hx hb dL_does_64 rfl (lv_at hl 1 rfl) ?_
        refine lv_iconst (v := 3) hx hb dL_does_65 (by decide) ?_
        refine lv_icmp_ne (tgt := 76) hx hb dL_does_66 (by decide) (fun c_4 => ?_) (fun c_4 => ?_)
        · refine lv_iload_n hx hb dL_does_76 rfl (lv_at hl 1 rfl) ?_
          refine lv_iconst (v := 4) hx hb dL_does_77 (by decide) ?_
          refine lv_icmp_ne (tgt := 97) hx hb dL_does_78 (by decide) (fun c_5 => ?_) (fun c_5 => ?_)
          · refine lv_iload_n hx hb dL_does_97 rfl (lv_at hl 1 rfl) ?_
            refine lv_iconst (v := 5) hx hb dL_does_98 (by decide) ?_
            refine lv_icmp_ne (tgt := 118) hx hb dL_does_99 (by decide) (fun c_6 => ?_) (fun c_6 => ?_)
            · refine lv_iload_n hx hb dL_does_118 rfl (lv_at hl 1 rfl) ?_
              refine lv_bipush (v := 6) hx hb dL_does_119 (by decide) ?_
              refine lv_icmp_ne (tgt := 131) hx hb dL_does_121 (by decide) (fun c_7 => ?_) (fun c_7 => ?_)
              · exact absurd (show (6 : Int32) = (6 : Int32) from by decide) c_7
              · refine lv_aload_n hx hb dL_does_124 rfl (lv_at hl 0 rfl) ?_
                refine zxI (wr := []) (px := fun k9 => (xL_travelled ni li mi mv nx al nc nl on il ba le wi pr tp gs) = k9 ∧ k9 ≠ 0) (P0 := (xL_travelled ni li mi mv nx al nc nl on il ba le wi pr tp gs) = 0) (r0 := (rL_travelled ni li mi mv nx al nc nl on il ba le wi pr tp gs)) (u0 := ((oL_travelled_ba ni li mi mv nx al nc nl on il ba le wi pr tp gs), (oL_travelled_tp ni li mi mv nx al nc nl on il ba le wi pr tp gs))) (vx_runS (As := [.ref mh]) (rest := []) ⟨hx, hb, hml, hown, hts⟩ (c_L_travelled l hfl dC dI cI cJ mh sg ga gl gw gp gt ca la pl rw tw pa lg s.heap.size ni li mi mv nx al nc nl on il ba le wi pr tp gs ) (va_cwS 1 hts gL_does_L_travelled rfl rfl rfl (by decide +kernel) ⟨Nat.le_of_ble_eq_true rfl, Nat.le_of_ble_eq_true rfl⟩) (zpS hK hP hD hS hA hG [0, 1, 2, 3, 4, 5, 6] (by decide) rfl) rfl rfl hl.1 rfl (lv_room (Nat.le_of_ble_eq_true rfl)) dL_does_125 ⟨Nat.le_of_ble_eq_true rfl, Nat.le_of_ble_eq_true rfl⟩) (fun r u h => ⟨h.1, h.2.1, zT2 h.2.2.1 h.2.2.2⟩) hP hD hS hA [0, 1, 2, 3, 4, 5, 6] [] rfl rfl (by decide) (by decide) (fun k9 ce q9 H locs hw_8 hP hS hce hcv hcl => ?_) (fun H locs c_9 hP hD hS => ?_)
                · have hk9 : k9 = 3 := by have h := bxL_travelled ni li mi mv nx al nc nl on il ba le wi pr tp gs; omega
                  subst hk9
                  have c_9 : ¬ (xL_travelled ni li mi mv nx al nc nl on il ba le wi pr tp gs) = 0 := by rw [hw_8.1]; decide
                  have c_10 : (xL_travelled ni li mi mv nx al nc nl on il ba le wi pr tp gs) = 3 := hw_8.1
                  refine vx_catch (name := zXn 3) hown [⟨0, 326, 327, 82⟩, ⟨0, 326, 332, 85⟩] ⟨0, 326, 337, 88⟩ [] htab (fun z hz => by rcases (List.mem_cons.mp hz) with rfl | hz; exact Or.inr ⟨by decide, _, (hts _ kL_does_6_0), hG.1.2.2.1 _ (List.mem_of_getElem? (i := 1) rfl)⟩; rcases (List.mem_cons.mp hz) with rfl | hz; exact Or.inr ⟨by decide, _, (hts _ kL_does_6_1), hG.1.2.2.1 _ (List.mem_of_getElem? (i := 2) rfl)⟩; cases hz) (by decide) (by decide) (hts _ kL_does_6_2) (va_Nw.use rfl (hG.1.2.2.2.1 3)) hce hcv hcl ?_
                  refine lv_astore (lv' := [(6, .ref q9), (0, .ref mh), (1, .int (6 : Int32)), (2, .int p1), (3, .int p2), (4, .int p3), (5, .int p4)]) hx hb dL_does_337 hl (by decide) rfl (fun ls hl => ?_)
                  refine lv_ldc (v := -1000000) hx hb hown (hts _ kL_does_6_3) dL_does_339 ?_
                  refine W.widen (k := 1) (n := 6) (by decide) (by decide) ?_
                  exact W.iret (v := (-1000000 : Int32)) hx hb hr (fun t ht hW => ⟨⟨(-1000000 : Int32), (ba, tp), rfl, ⟨(by unfold rL_does_6; rw [if_neg c_9]), (by unfold oL_does_6_ba; rw [if_neg c_9]), (by unfold oL_does_6_tp; rw [if_neg c_9])⟩, (by rw [ht]; exact hP.sub [0, 1, 2, 3, 4, 5, 6] rfl), va_K.moved hW.alike hK, hD.sub [0, 1, 2, 3, 4, 5, 6] (by decide) rfl⟩, hS.F ht⟩) hS.2.2 dL_does_341
                · try dsimp only [List.cons_append, List.nil_append] at hP hD
                  have hP : va_P (dC, dI) vwCl [(mh, .inr (7, [.ref ca, .ref la, .ref sg, .ref pl, .ref rw, .ref tw, .ref ga, .ref pa, .int ni, .int li, .int mi, .int mv, .int nx, .int al, .int nc, .int nl])), (sg, .inr (5, [.ref lg, .int on, .int il, .int (oL_travelled_ba ni li mi mv nx al nc nl on il ba le wi pr tp gs)])), (ga, .inr (1, [.ref gl, .ref gw, .ref gp, .ref gt, .int gs])), (gl, .inl (cI, 6, .inl le)), (gw, .inl (cI, 6, .inl wi)), (gp, .inl (cI, 6, .inl pr)), (gt, .inl (cI, 6, .inl (oL_travelled_tp ni li mi mv nx al nc nl on il ba le wi pr tp gs)))] H := hP
                  have hD : va_D A [(mh, .inr (7, [.ref ca, .ref la, .ref sg, .ref pl, .ref rw, .ref tw, .ref ga, .ref pa, .int ni, .int li, .int mi, .int mv, .int nx, .int al, .int nc, .int nl])), (sg, .inr (5, [.ref lg, .int on, .int il, .int (oL_travelled_ba ni li mi mv nx al nc nl on il ba le wi pr tp gs)])), (ga, .inr (1, [.ref gl, .ref gw, .ref gp, .ref gt, .int gs])), (gl, .inl (cI, 6, .inl le)), (gw, .inl (cI, 6, .inl wi)), (gp, .inl (cI, 6, .inl pr)), (gt, .inl (cI, 6, .inl (oL_travelled_tp ni li mi mv nx al nc nl on il ba le wi pr tp gs)))] := hD
                  refine lv_goto (tgt := 326) hx hb dL_does_128 (by decide) ?_
                  refine W.widen (k := 1) (n := 6) (by decide) (by decide) ?_
                  exact W.iret (v := (rL_travelled ni li mi mv nx al nc nl on il ba le wi pr tp gs)) hx hb hr (fun t ht hW => ⟨⟨(rL_travelled ni li mi mv nx al nc nl on il ba le wi pr tp gs), ((oL_travelled_ba ni li mi mv nx al nc nl on il ba le wi pr tp gs), (oL_travelled_tp ni li mi mv nx al nc nl on il ba le wi pr tp gs)), rfl, ⟨(by unfold rL_does_6; rw [if_pos c_9]), (by unfold oL_does_6_ba; rw [if_pos c_9]), (by unfold oL_does_6_tp; rw [if_pos c_9])⟩, (by rw [ht]; exact hP.sub [0, 1, 2, 3, 4, 5, 6] rfl), va_K.moved hW.alike hK, hD.sub [0, 1, 2, 3, 4, 5, 6] (by decide) rfl⟩, hS.F ht⟩) hS.2.2 dL_does_326
            · exact absurd c_6 (by decide)
          · exact absurd c_5 (by decide)
        · exact absurd c_4 (by decide)
      · exact absurd c_3 (by decide)
    · exact absurd c_2 (by decide)
  · exact absurd c_1 (by decide)
