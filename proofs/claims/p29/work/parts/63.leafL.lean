/-! L_isIn -/
def rL_isIn (p0 : Int32) (p1 : Int32) : Int32 := (if ((p0 >>> (p1 &&& 31)) &&& (1 : Int32)) = (1 : Int32) then (1 : Int32) else (0 : Int32))
set_option maxHeartbeats 400000 in
set_option maxRecDepth 100000 in
theorem c_L_isIn (l : Launch) (hfl : l.stackTraces = false) (dC : Nat → ClassId) (dI : Nat → Nat → Nat) (cI cJ : ClassId) (sz : Nat) (p0 : Int32) (p1 : Int32) : Met l yL_isIn wsL_isIn ({ frames := 0, cells := 0, slots := 0, locals := 0 }) (va_Pc [.int p0, .int p1] (zI (dC, dI) [(cI, .int), (cJ, .long)] [] sz)) (vp_Si (fun r => r = rL_isIn p0 p1)) 0 0 (fun _ => False) := by
  refine Met.ofW (cc := cL_isIn) (maxL := 2) (ret := (some .boolean)) (by decide) rfl ?_
  intro p e s m args below meth c s₁ B hml hv
  obtain ⟨rfl, hsz, hP, hK, hD0, hG⟩ := hv
  have hx := B.exec
  have hb := B.bytes
  have hr := B.returns
  have hts := atoms_spec (ws := wsL_isIn) B.pre
  have hown : s.vm.findClass RL = some m.cls := findClass_of_methodNamed B.named
  have hlocks := B.notSynchronized
  subst hsz
  have hD := hD0.self (sz := s.heap.size)
  generalize hAe : va_A [] s.heap.size = A at hD hG
  have hA : ∀ q : Nat, s.heap.size ≤ q → A q := fun q h => by rw [← hAe]; exact Or.inr h
  have hS : va_S A s.heap s.heap [] := va_S.rf
  have hP : va_P (dC, dI) vwCl [] s.heap := hP
  have hl := lv_entry ([.int p0, .int p1]) (n := 2) (Nat.le_of_ble_eq_true rfl)
  rw [lg_entry_eq]
  generalize (lg_sl ([.int p0, .int p1]) ++ List.replicate (2 - (lg_sl ([.int p0, .int p1])).length) Slot.unset).toArray = ls at hl ⊢
  have hl : lv_has ls 2 [(0, .int p0), (1, .int p1)] := hl
  refine lv_iload_n hx hb dL_isIn_0 rfl (lv_at hl 0 rfl) ?_
  refine lv_iload_n hx hb dL_isIn_1 rfl (lv_at hl 1 rfl) ?_
  refine lv_ishr hx hb dL_isIn_2 ?_
  refine lv_iconst (v := 1) hx hb dL_isIn_3 (by decide) ?_
  refine lv_iand hx hb dL_isIn_4 ?_
  refine lv_iconst (v := 1) hx hb dL_isIn_5 (by decide) ?_
  refine lv_icmp_ne (tgt := 13) hx hb dL_isIn_6 (by decide) (fun c_1 => ?_) (fun c_1 => ?_)
  · refine lv_iconst (v := 0) hx hb dL_isIn_13 (by decide) ?_
    exact W.zret (v := (0 : Int32)) hx hb hr (zNar (Or.inl rfl)) (fun t ht hW => ⟨_, rfl, (by unfold rL_isIn; rw [if_neg c_1]), ht⟩) (fun q hq => absurd hq List.not_mem_nil) dL_isIn_14
  · refine lv_iconst (v := 1) hx hb dL_isIn_9 (by decide) ?_
    refine lv_goto (tgt := 14) hx hb dL_isIn_10 (by decide) ?_
    exact W.zret (v := (1 : Int32)) hx hb hr (zNar (Or.inr rfl)) (fun t ht hW => ⟨_, rfl, (by unfold rL_isIn; rw [if_pos c_1]), ht⟩) (fun q hq => absurd hq List.not_mem_nil) dL_isIn_14
theorem brL_isIn (p0 : Int32) (p1 : Int32) : rL_isIn p0 p1 = 0 ∨ rL_isIn p0 p1 = 1 := by
  unfold rL_isIn
  repeat' split
  all_goals first | exact Or.inl rfl | exact Or.inr rfl

/-! L_passes -/
def jL_passes_23_0 (vg : Nat → Int32) (p1 : Int32) : Int32 := (if ((upd vg ((6 : Int32)).toNatClampNeg ((vg ((6 : Int32)).toNatClampNeg) + p1)) ((7 : Int32)).toNatClampNeg) = ((upd vg ((6 : Int32)).toNatClampNeg ((vg ((6 : Int32)).toNatClampNeg) + p1)) ((0 : Int32)).toNatClampNeg) then (1 : Int32) else (0 : Int32))
theorem bjL_passes_23_0 (vg : Nat → Int32) (p1 : Int32) : jL_passes_23_0 vg p1 = 0 ∨ jL_passes_23_0 vg p1 = 1 := by
  unfold jL_passes_23_0
  repeat' split
  all_goals first | exact Or.inl rfl | exact Or.inr rfl
def jL_passes_58_0 (vg : Nat → Int32) (p1 : Int32) : Int32 := (if (jL_passes_23_0 vg p1) = 0 then (0 : Int32) else (1 : Int32))
theorem bjL_passes_58_0 (vg : Nat → Int32) (p1 : Int32) : jL_passes_58_0 vg p1 = 0 ∨ jL_passes_58_0 vg p1 = 1 := by
  unfold jL_passes_58_0
  repeat' split
  all_goals first | exact Or.inl rfl | exact Or.inr rfl
def jL_passes_43_0 (vg : Nat → Int32) (p1 : Int32) : Int32 := (if (jL_passes_23_0 vg p1) = 0 then (if ((upd vg ((6 : Int32)).toNatClampNeg ((vg ((6 : Int32)).toNatClampNeg) + p1)) ((6 : Int32)).toNatClampNeg) < ((upd vg ((6 : Int32)).toNatClampNeg ((vg ((6 : Int32)).toNatClampNeg) + p1)) ((5 : Int32)).toNatClampNeg) then (0 : Int32) else (1 : Int32)) else (0 : Int32))
theorem bjL_passes_43_0 (vg : Nat → Int32) (p1 : Int32) : jL_passes_43_0 vg p1 = 0 ∨ jL_passes_43_0 vg p1 = 1 := by
  unfold jL_passes_43_0
  repeat' split
  all_goals first | exact Or.inl rfl | exact Or.inr rfl
def jL_passes_74_0 (vg : Nat → Int32) (p1 : Int32) : Int32 := (if (jL_passes_43_0 vg p1) = 0 then (0 : Int32) else (1 : Int32))
theorem bjL_passes_74_0 (vg : Nat → Int32) (p1 : Int32) : jL_passes_74_0 vg p1 = 0 ∨ jL_passes_74_0 vg p1 = 1 := by
  unfold jL_passes_74_0
  repeat' split
  all_goals first | exact Or.inl rfl | exact Or.inr rfl
def oL_passes_vg (vg : Nat → Int32) (p1 : Int32) : Nat → Int32 := (if (jL_passes_23_0 vg p1) = 0 then (if (jL_passes_43_0 vg p1) = 0 then (upd (upd (upd (upd vg ((6 : Int32)).toNatClampNeg ((vg ((6 : Int32)).toNatClampNeg) + p1)) ((11 : Int32)).toNatClampNeg (((upd vg ((6 : Int32)).toNatClampNeg ((vg ((6 : Int32)).toNatClampNeg) + p1)) ((11 : Int32)).toNatClampNeg) + (jL_passes_58_0 vg p1))) ((12 : Int32)).toNatClampNeg (((upd (upd vg ((6 : Int32)).toNatClampNeg ((vg ((6 : Int32)).toNatClampNeg) + p1)) ((11 : Int32)).toNatClampNeg (((upd vg ((6 : Int32)).toNatClampNeg ((vg ((6 : Int32)).toNatClampNeg) + p1)) ((11 : Int32)).toNatClampNeg) + (jL_passes_58_0 vg p1))) ((12 : Int32)).toNatClampNeg) + (jL_passes_74_0 vg p1))) ((4 : Int32)).toNatClampNeg (1 : Int32)) else (upd (upd (upd (upd vg ((6 : Int32)).toNatClampNeg ((vg ((6 : Int32)).toNatClampNeg) + p1)) ((11 : Int32)).toNatClampNeg (((upd vg ((6 : Int32)).toNatClampNeg ((vg ((6 : Int32)).toNatClampNeg) + p1)) ((11 : Int32)).toNatClampNeg) + (jL_passes_58_0 vg p1))) ((12 : Int32)).toNatClampNeg (((upd (upd vg ((6 : Int32)).toNatClampNeg ((vg ((6 : Int32)).toNatClampNeg) + p1)) ((11 : Int32)).toNatClampNeg (((upd vg ((6 : Int32)).toNatClampNeg ((vg ((6 : Int32)).toNatClampNeg) + p1)) ((11 : Int32)).toNatClampNeg) + (jL_passes_58_0 vg p1))) ((12 : Int32)).toNatClampNeg) + (jL_passes_74_0 vg p1))) ((4 : Int32)).toNatClampNeg (3 : Int32))) else (upd (upd (upd (upd vg ((6 : Int32)).toNatClampNeg ((vg ((6 : Int32)).toNatClampNeg) + p1)) ((11 : Int32)).toNatClampNeg (((upd vg ((6 : Int32)).toNatClampNeg ((vg ((6 : Int32)).toNatClampNeg) + p1)) ((11 : Int32)).toNatClampNeg) + (jL_passes_58_0 vg p1))) ((12 : Int32)).toNatClampNeg (((upd (upd vg ((6 : Int32)).toNatClampNeg ((vg ((6 : Int32)).toNatClampNeg) + p1)) ((11 : Int32)).toNatClampNeg (((upd vg ((6 : Int32)).toNatClampNeg ((vg ((6 : Int32)).toNatClampNeg) + p1)) ((11 : Int32)).toNatClampNeg) + (jL_passes_58_0 vg p1))) ((12 : Int32)).toNatClampNeg) + (jL_passes_74_0 vg p1))) ((4 : Int32)).toNatClampNeg (2 : Int32)))
set_option maxHeartbeats 1640000 in
set_option maxRecDepth 100000 in
theorem c_L_passes (l : Launch) (hfl : l.stackTraces = false) (dC : Nat → ClassId) (dI : Nat → Nat → Nat) (cI cJ : ClassId) (ag : Nat) (sz : Nat) (vg : Nat → Int32) (p1 : Int32) : Met l yL_passes wsL_passes ({ frames := 0, cells := 0, slots := 0, locals := 0 }) (va_Pc [.ref ag, .int p1] (zI (dC, dI) [(cI, .int), (cJ, .long)] [(ag, .inl (cI, 13, .inl vg))] sz)) (va_Qv (fun (u : (Nat → Int32)) => u = oL_passes_vg vg p1) (fun u => zO (dC, dI) [(cI, .int), (cJ, .long)] [(ag, .inl (cI, 13, .inl u))] (va_A [(ag, .inl (cI, 13, .inl vg))] sz)) (va_A [(ag, .inl (cI, 13, .inl vg))] sz)) 0 0 (va_A [(ag, .inl (cI, 13, .inl vg))] sz) := by
  refine Met.ofW (cc := cL_passes) (maxL := 4) (ret := none) (by decide) rfl ?_
  intro p e s m args below meth c s₁ B hml hv
  obtain ⟨rfl, hsz, hP, hK, hD0, hG⟩ := hv
  have hx := B.exec
  have hb := B.bytes
  have hr := B.returns
  have hts := atoms_spec (ws := wsL_passes) B.pre
  have hown : s.vm.findClass RL = some m.cls := findClass_of_methodNamed B.named
  have hlocks := B.notSynchronized
  subst hsz
  have hD := hD0.self (sz := s.heap.size)
  generalize hAe : va_A [(ag, .inl (cI, 13, .inl vg))] s.heap.size = A at hD hG ⊢
  have hA : ∀ q : Nat, s.heap.size ≤ q → A q := fun q h => by rw [← hAe]; exact Or.inr h
  have hS : va_S A s.heap s.heap [] := va_S.rf
  have hP : va_P (dC, dI) vwCl [(ag, .inl (cI, 13, .inl vg))] s.heap := hP
  have hl := lv_entry ([.ref ag, .int p1]) (n := 4) (Nat.le_of_ble_eq_true rfl)
  rw [lg_entry_eq]
  generalize (lg_sl ([.ref ag, .int p1]) ++ List.replicate (4 - (lg_sl ([.ref ag, .int p1])).length) Slot.unset).toArray = ls at hl ⊢
  have hl : lv_has ls 4 [(0, .ref ag), (1, .int p1)] := hl
  refine lv_aload_n hx hb dL_passes_0 rfl (lv_at hl 0 rfl) ?_
  refine lv_bipush (v := 6) hx hb dL_passes_1 (by decide) ?_
  refine lv_dup2_11 hx hb dL_passes_3 rfl rfl ?_
  refine va_iald hx hb hK hP 0 0 rfl rfl (i := (6 : Int32)) (by unfold vp_in; decide) dL_passes_4 ?_
  refine lv_iload_n hx hb dL_passes_5 rfl (lv_at hl 1 rfl) ?_
  refine lv_iadd hx hb dL_passes_6 ?_
  refine va_iast hx hb hK hP hD hS 0 0 rfl rfl (i := (6 : Int32)) (x := ((vg ((6 : Int32)).toNatClampNeg) + p1)) (by unfold vp_in; decide) dL_passes_7 (fun H locs hP hD hS => ?_)
  have hP : va_P (dC, dI) vwCl [(ag, .inl (cI, 13, .inl (upd vg ((6 : Int32)).toNatClampNeg ((vg ((6 : Int32)).toNatClampNeg) + p1))))] H := hP
  have hD : va_D A [(ag, .inl (cI, 13, .inl (upd vg ((6 : Int32)).toNatClampNeg ((vg ((6 : Int32)).toNatClampNeg) + p1))))] := hD
  refine lv_aload_n hx hb dL_passes_8 rfl (lv_at hl 0 rfl) ?_
  refine lv_bipush (v := 7) hx hb dL_passes_9 (by decide) ?_
  refine va_iald hx hb hK hP 0 0 rfl rfl (i := (7 : Int32)) (by unfold vp_in; decide) dL_passes_11 ?_
  refine lv_aload_n hx hb dL_passes_12 rfl (lv_at hl 0 rfl) ?_
  refine lv_iconst (v := 0) hx hb dL_passes_13 (by decide) ?_
  refine va_iald hx hb hK hP 0 0 rfl rfl (i := (0 : Int32)) (by unfold vp_in; decide) dL_passes_14 ?_
  refine zNm (fun R9 Q9 hR9 hQ9 => ?_)
  have J23 : ∀ (v23_0 : Int32), v23_0 = (jL_passes_23_0 vg p1) → ∀ (H : Heap) (locs : List Loc) (ls : Array Slot), va_P (dC, dI) vwCl [(ag, .inl (cI, 13, .inl (upd vg ((6 : Int32)).toNatClampNeg ((vg ((6 : Int32)).toNatClampNeg) + p1))))] H → va_D A [(ag, .inl (cI, 13, .inl (upd vg ((6 : Int32)).toNatClampNeg ((vg ((6 : Int32)).toNatClampNeg) + p1))))] → va_S A s.heap H locs → lv_has ls 4 [(0, .ref ag), (1, .int p1)] → W p l e R9 s m ([.ref ag, .int p1] : List Value).toArray below meth c H locs 0 0 Q9 (F0 m 23 ls [.int v23_0]) := by
    subst hR9; subst hQ9
    intro v23_0 hvv23_0
    rw [hvv23_0]; clear hvv23_0 v23_0
    intro H locs ls hP hD hS hl
    refine lv_istore_n (lv' := [(2, .int (jL_passes_23_0 vg p1)), (0, .ref ag), (1, .int p1)]) hx hb dL_passes_23 rfl hl (by decide) rfl (fun ls hl => ?_)
    refine lv_iload_n hx hb dL_passes_24 rfl (lv_at hl 0 rfl) ?_
    refine zNm (fun R9 Q9 hR9 hQ9 => ?_)
    have J43 : ∀ (v43_0 : Int32), v43_0 = (jL_passes_43_0 vg p1) → ∀ (H : Heap) (locs : List Loc) (ls : Array Slot), va_P (dC, dI) vwCl [(ag, .inl (cI, 13, .inl (upd vg ((6 : Int32)).toNatClampNeg ((vg ((6 : Int32)).toNatClampNeg) + p1))))] H → va_D A [(ag, .inl (cI, 13, .inl (upd vg ((6 : Int32)).toNatClampNeg ((vg ((6 : Int32)).toNatClampNeg) + p1))))] → va_S A s.heap H locs → lv_has ls 4 [(2, .int (jL_passes_23_0 vg p1)), (0, .ref ag), (1, .int p1)] → W p l e R9 s m ([.ref ag, .int p1] : List Value).toArray below meth c H locs 0 0 Q9 (F0 m 43 ls [.int v43_0]) := by
      subst hR9; subst hQ9
      intro v43_0 hvv43_0
      rw [hvv43_0]; clear hvv43_0 v43_0
      intro H locs ls hP hD hS hl
      refine lv_istore_n (lv' := [(3, .int (jL_passes_43_0 vg p1)), (2, .int (jL_passes_23_0 vg p1)), (0, .ref ag), (1, .int p1)]) hx hb dL_passes_43 rfl hl (by decide) rfl (fun ls hl => ?_)
      refine lv_aload_n hx hb dL_passes_44 rfl (lv_at hl 2 rfl) ?_
      refine lv_bipush (v := 11) hx hb dL_passes_45 (by decide) ?_
      refine lv_dup2_11 hx hb dL_passes_47 rfl rfl ?_
      refine va_iald hx hb hK hP 0 0 rfl rfl (i := (11 : Int32)) (by unfold vp_in; decide) dL_passes_48 ?_
      refine lv_iload_n hx hb dL_passes_49 rfl (lv_at hl 1 rfl) ?_
      refine zNm (fun R9 Q9 hR9 hQ9 => ?_)
      have J58 : ∀ (v58_0 : Int32), v58_0 = (jL_passes_58_0 vg p1) → ∀ (H : Heap) (locs : List Loc) (ls : Array Slot), va_P (dC, dI) vwCl [(ag, .inl (cI, 13, .inl (upd vg ((6 : Int32)).toNatClampNeg ((vg ((6 : Int32)).toNatClampNeg) + p1))))] H → va_D A [(ag, .inl (cI, 13, .inl (upd vg ((6 : Int32)).toNatClampNeg ((vg ((6 : Int32)).toNatClampNeg) + p1))))] → va_S A s.heap H locs → lv_has ls 4 [(3, .int (jL_passes_43_0 vg p1)), (2, .int (jL_passes_23_0 vg p1)), (0, .ref ag), (1, .int p1)] → W p l e R9 s m ([.ref ag, .int p1] : List Value).toArray below meth c H locs 0 0 Q9 (F0 m 58 ls [.int v58_0, .int ((upd vg ((6 : Int32)).toNatClampNeg ((vg ((6 : Int32)).toNatClampNeg) + p1)) ((11 : Int32)).toNatClampNeg), .int (11 : Int32), .ref ag]) := by
        subst hR9; subst hQ9
        intro v58_0 hvv58_0
        rw [hvv58_0]; clear hvv58_0 v58_0
        intro H locs ls hP hD hS hl
        refine lv_iadd hx hb dL_passes_58 ?_
        refine va_iast hx hb hK hP hD hS 0 0 rfl rfl (i := (11 : Int32)) (x := (((upd vg ((6 : Int32)).toNatClampNeg ((vg ((6 : Int32)).toNatClampNeg) + p1)) ((11 : Int32)).toNatClampNeg) + (jL_passes_58_0 vg p1))) (by unfold vp_in; decide) dL_passes_59 (fun H locs hP hD hS => ?_)
        have hP : va_P (dC, dI) vwCl [(ag, .inl (cI, 13, .inl (upd (upd vg ((6 : Int32)).toNatClampNeg ((vg ((6 : Int32)).toNatClampNeg) + p1)) ((11 : Int32)).toNatClampNeg (((upd vg ((6 : Int32)).toNatClampNeg ((vg ((6 : Int32)).toNatClampNeg) + p1)) ((11 : Int32)).toNatClampNeg) + (jL_passes_58_0 vg p1)))))] H := hP
        have hD : va_D A [(ag, .inl (cI, 13, .inl (upd (upd vg ((6 : Int32)).toNatClampNeg ((vg ((6 : Int32)).toNatClampNeg) + p1)) ((11 : Int32)).toNatClampNeg (((upd vg ((6 : Int32)).toNatClampNeg ((vg ((6 : Int32)).toNatClampNeg) + p1)) ((11 : Int32)).toNatClampNeg) + (jL_passes_58_0 vg p1)))))] := hD
        refine lv_aload_n hx hb dL_passes_60 rfl (lv_at hl 2 rfl) ?_
        refine lv_bipush (v := 12) hx hb dL_passes_61 (by decide) ?_
        refine lv_dup2_11 hx hb dL_passes_63 rfl rfl ?_
        refine va_iald hx hb hK hP 0 0 rfl rfl (i := (12 : Int32)) (by unfold vp_in; decide) dL_passes_64 ?_
        refine lv_iload_n hx hb dL_passes_65 rfl (lv_at hl 0 rfl) ?_
        refine zNm (fun R9 Q9 hR9 hQ9 => ?_)
        have J74 : ∀ (v74_0 : Int32), v74_0 = (jL_passes_74_0 vg p1) → ∀ (H : Heap) (locs : List Loc) (ls : Array Slot), va_P (dC, dI) vwCl [(ag, .inl (cI, 13, .inl (upd (upd vg ((6 : Int32)).toNatClampNeg ((vg ((6 : Int32)).toNatClampNeg) + p1)) ((11 : Int32)).toNatClampNeg (((upd vg ((6 : Int32)).toNatClampNeg ((vg ((6 : Int32)).toNatClampNeg) + p1)) ((11 : Int32)).toNatClampNeg) + (jL_passes_58_0 vg p1)))))] H → va_D A [(ag, .inl (cI, 13, .inl (upd (upd vg ((6 : Int32)).toNatClampNeg ((vg ((6 : Int32)).toNatClampNeg) + p1)) ((11 : Int32)).toNatClampNeg (((upd vg ((6 : Int32)).toNatClampNeg ((vg ((6 : Int32)).toNatClampNeg) + p1)) ((11 : Int32)).toNatClampNeg) + (jL_passes_58_0 vg p1)))))] → va_S A s.heap H locs → lv_has ls 4 [(3, .int (jL_passes_43_0 vg p1)), (2, .int (jL_passes_23_0 vg p1)), (0, .ref ag), (1, .int p1)] → W p l e R9 s m ([.ref ag, .int p1] : List Value).toArray below meth c H locs 0 0 Q9 (F0 m 74 ls [.int v74_0, .int ((upd (upd vg ((6 : Int32)).toNatClampNeg ((vg ((6 : Int32)).toNatClampNeg) + p1)) ((11 : Int32)).toNatClampNeg (((upd vg ((6 : Int32)).toNatClampNeg ((vg ((6 : Int32)).toNatClampNeg) + p1)) ((11 : Int32)).toNatClampNeg) + (jL_passes_58_0 vg p1))) ((12 : Int32)).toNatClampNeg), .int (12 : Int32), .ref ag]) := by
          subst hR9; subst hQ9
          intro v74_0 hvv74_0
          rw [hvv74_0]; clear hvv74_0 v74_0
          intro H locs ls hP hD hS hl
          refine lv_iadd hx hb dL_passes_74 ?_
          refine va_iast hx hb hK hP hD hS 0 0 rfl rfl (i := (12 : Int32)) (x := (((upd (upd vg ((6 : Int32)).toNatClampNeg ((vg ((6 : Int32)).toNatClampNeg) + p1)) ((11 : Int32)).toNatClampNeg (((upd vg ((6 : Int32)).toNatClampNeg ((vg ((6 : Int32)).toNatClampNeg) + p1)) ((11 : Int32)).toNatClampNeg) + (jL_passes_58_0 vg p1))) ((12 : Int32)).toNatClampNeg) + (jL_passes_74_0 vg p1))) (by unfold vp_in; decide) dL_passes_75 (fun H locs hP hD hS => ?_)
          have hP : va_P (dC, dI) vwCl [(ag, .inl (cI, 13, .inl (upd (upd (upd vg ((6 : Int32)).toNatClampNeg ((vg ((6 : Int32)).toNatClampNeg) + p1)) ((11 : Int32)).toNatClampNeg (((upd vg ((6 : Int32)).toNatClampNeg ((vg ((6 : Int32)).toNatClampNeg) + p1)) ((11 : Int32)).toNatClampNeg) + (jL_passes_58_0 vg p1))) ((12 : Int32)).toNatClampNeg (((upd (upd vg ((6 : Int32)).toNatClampNeg ((vg ((6 : Int32)).toNatClampNeg) + p1)) ((11 : Int32)).toNatClampNeg (((upd vg ((6 : Int32)).toNatClampNeg ((vg ((6 : Int32)).toNatClampNeg) + p1)) ((11 : Int32)).toNatClampNeg) + (jL_passes_58_0 vg p1))) ((12 : Int32)).toNatClampNeg) + (jL_passes_74_0 vg p1)))))] H := hP
          have hD : va_D A [(ag, .inl (cI, 13, .inl (upd (upd (upd vg ((6 : Int32)).toNatClampNeg ((vg ((6 : Int32)).toNatClampNeg) + p1)) ((11 : Int32)).toNatClampNeg (((upd vg ((6 : Int32)).toNatClampNeg ((vg ((6 : Int32)).toNatClampNeg) + p1)) ((11 : Int32)).toNatClampNeg) + (jL_passes_58_0 vg p1))) ((12 : Int32)).toNatClampNeg (((upd (upd vg ((6 : Int32)).toNatClampNeg ((vg ((6 : Int32)).toNatClampNeg) + p1)) ((11 : Int32)).toNatClampNeg (((upd vg ((6 : Int32)).toNatClampNeg ((vg ((6 : Int32)).toNatClampNeg) + p1)) ((11 : Int32)).toNatClampNeg) + (jL_passes_58_0 vg p1))) ((12 : Int32)).toNatClampNeg) + (jL_passes_74_0 vg p1)))))] := hD
          refine lv_aload_n hx hb dL_passes_76 rfl (lv_at hl 2 rfl) ?_
          refine lv_iconst (v := 4) hx hb dL_passes_77 (by decide) ?_
          refine lv_iload_n hx hb dL_passes_78 rfl (lv_at hl 1 rfl) ?_
          refine lv_if_eq (tgt := 86) hx hb dL_passes_79 (by decide) (fun c_1 => ?_) (fun c_1 => ?_)
          · refine lv_iload_n hx hb dL_passes_86 rfl (lv_at hl 0 rfl) ?_
            refine lv_if_eq (tgt := 94) hx hb dL_passes_87 (by decide) (fun c_2 => ?_) (fun c_2 => ?_)
            · refine lv_iconst (v := 1) hx hb dL_passes_94 (by decide) ?_
              refine va_iast hx hb hK hP hD hS 0 0 rfl rfl (i := (4 : Int32)) (x := (1 : Int32)) (by unfold vp_in; decide) dL_passes_95 (fun H locs hP hD hS => ?_)
              have hP : va_P (dC, dI) vwCl [(ag, .inl (cI, 13, .inl (upd (upd (upd (upd vg ((6 : Int32)).toNatClampNeg ((vg ((6 : Int32)).toNatClampNeg) + p1)) ((11 : Int32)).toNatClampNeg (((upd vg ((6 : Int32)).toNatClampNeg ((vg ((6 : Int32)).toNatClampNeg) + p1)) ((11 : Int32)).toNatClampNeg) + (jL_passes_58_0 vg p1))) ((12 : Int32)).toNatClampNeg (((upd (upd vg ((6 : Int32)).toNatClampNeg ((vg ((6 : Int32)).toNatClampNeg) + p1)) ((11 : Int32)).toNatClampNeg (((upd vg ((6 : Int32)).toNatClampNeg ((vg ((6 : Int32)).toNatClampNeg) + p1)) ((11 : Int32)).toNatClampNeg) + (jL_passes_58_0 vg p1))) ((12 : Int32)).toNatClampNeg) + (jL_passes_74_0 vg p1))) ((4 : Int32)).toNatClampNeg (1 : Int32))))] H := hP
              have hD : va_D A [(ag, .inl (cI, 13, .inl (upd (upd (upd (upd vg ((6 : Int32)).toNatClampNeg ((vg ((6 : Int32)).toNatClampNeg) + p1)) ((11 : Int32)).toNatClampNeg (((upd vg ((6 : Int32)).toNatClampNeg ((vg ((6 : Int32)).toNatClampNeg) + p1)) ((11 : Int32)).toNatClampNeg) + (jL_passes_58_0 vg p1))) ((12 : Int32)).toNatClampNeg (((upd (upd vg ((6 : Int32)).toNatClampNeg ((vg ((6 : Int32)).toNatClampNeg) + p1)) ((11 : Int32)).toNatClampNeg (((upd vg ((6 : Int32)).toNatClampNeg ((vg ((6 : Int32)).toNatClampNeg) + p1)) ((11 : Int32)).toNatClampNeg) + (jL_passes_58_0 vg p1))) ((12 : Int32)).toNatClampNeg) + (jL_passes_74_0 vg p1))) ((4 : Int32)).toNatClampNeg (1 : Int32))))] := hD
              exact W.vret hx hb hr (fun t ht hW => ⟨⟨((upd (upd (upd (upd vg ((6 : Int32)).toNatClampNeg ((vg ((6 : Int32)).toNatClampNeg) + p1)) ((11 : Int32)).toNatClampNeg (((upd vg ((6 : Int32)).toNatClampNeg ((vg ((6 : Int32)).toNatClampNeg) + p1)) ((11 : Int32)).toNatClampNeg) + (jL_passes_58_0 vg p1))) ((12 : Int32)).toNatClampNeg (((upd (upd vg ((6 : Int32)).toNatClampNeg ((vg ((6 : Int32)).toNatClampNeg) + p1)) ((11 : Int32)).toNatClampNeg (((upd vg ((6 : Int32)).toNatClampNeg ((vg ((6 : Int32)).toNatClampNeg) + p1)) ((11 : Int32)).toNatClampNeg) + (jL_passes_58_0 vg p1))) ((12 : Int32)).toNatClampNeg) + (jL_passes_74_0 vg p1))) ((4 : Int32)).toNatClampNeg (1 : Int32))), rfl, (by unfold oL_passes_vg; rw [if_pos c_1, if_pos c_2]), (by rw [ht]; exact hP.sub [0] rfl), va_K.moved hW.alike hK, hD.sub [0] (by decide) rfl⟩, hS.F ht⟩) hS.2.2 dL_passes_96
            · refine lv_iconst (v := 3) hx hb dL_passes_90 (by decide) ?_
              refine lv_goto (tgt := 95) hx hb dL_passes_91 (by decide) ?_
              refine va_iast hx hb hK hP hD hS 0 0 rfl rfl (i := (4 : Int32)) (x := (3 : Int32)) (by unfold vp_in; decide) dL_passes_95 (fun H locs hP hD hS => ?_)
              have hP : va_P (dC, dI) vwCl [(ag, .inl (cI, 13, .inl (upd (upd (upd (upd vg ((6 : Int32)).toNatClampNeg ((vg ((6 : Int32)).toNatClampNeg) + p1)) ((11 : Int32)).toNatClampNeg (((upd vg ((6 : Int32)).toNatClampNeg ((vg ((6 : Int32)).toNatClampNeg) + p1)) ((11 : Int32)).toNatClampNeg) + (jL_passes_58_0 vg p1))) ((12 : Int32)).toNatClampNeg (((upd (upd vg ((6 : Int32)).toNatClampNeg ((vg ((6 : Int32)).toNatClampNeg) + p1)) ((11 : Int32)).toNatClampNeg (((upd vg ((6 : Int32)).toNatClampNeg ((vg ((6 : Int32)).toNatClampNeg) + p1)) ((11 : Int32)).toNatClampNeg) + (jL_passes_58_0 vg p1))) ((12 : Int32)).toNatClampNeg) + (jL_passes_74_0 vg p1))) ((4 : Int32)).toNatClampNeg (3 : Int32))))] H := hP
              have hD : va_D A [(ag, .inl (cI, 13, .inl (upd (upd (upd (upd vg ((6 : Int32)).toNatClampNeg ((vg ((6 : Int32)).toNatClampNeg) + p1)) ((11 : Int32)).toNatClampNeg (((upd vg ((6 : Int32)).toNatClampNeg ((vg ((6 : Int32)).toNatClampNeg) + p1)) ((11 : Int32)).toNatClampNeg) + (jL_passes_58_0 vg p1))) ((12 : Int32)).toNatClampNeg (((upd (upd vg ((6 : Int32)).toNatClampNeg ((vg ((6 : Int32)).toNatClampNeg) + p1)) ((11 : Int32)).toNatClampNeg (((upd vg ((6 : Int32)).toNatClampNeg ((vg ((6 : Int32)).toNatClampNeg) + p1)) ((11 : Int32)).toNatClampNeg) + (jL_passes_58_0 vg p1))) ((12 : Int32)).toNatClampNeg) + (jL_passes_74_0 vg p1))) ((4 : Int32)).toNatClampNeg (3 : Int32))))] := hD
              exact W.vret hx hb hr (fun t ht hW => ⟨⟨((upd (upd (upd (upd vg ((6 : Int32)).toNatClampNeg ((vg ((6 : Int32)).toNatClampNeg) + p1)) ((11 : Int32)).toNatClampNeg (((upd vg ((6 : Int32)).toNatClampNeg ((vg ((6 : Int32)).toNatClampNeg) + p1)) ((11 : Int32)).toNatClampNeg) + (jL_passes_58_0 vg p1))) ((12 : Int32)).toNatClampNeg (((upd (upd vg ((6 : Int32)).toNatClampNeg ((vg ((6 : Int32)).toNatClampNeg) + p1)) ((11 : Int32)).toNatClampNeg (((upd vg ((6 : Int32)).toNatClampNeg ((vg ((6 : Int32)).toNatClampNeg) + p1)) ((11 : Int32)).toNatClampNeg) + (jL_passes_58_0 vg p1))) ((12 : Int32)).toNatClampNeg) + (jL_passes_74_0 vg p1))) ((4 : Int32)).toNatClampNeg (3 : Int32))), rfl, (by unfold oL_passes_vg; rw [if_pos c_1, if_neg c_2]), (by rw [ht]; exact hP.sub [0] rfl), va_K.moved hW.alike hK, hD.sub [0] (by decide) rfl⟩, hS.F ht⟩) hS.2.2 dL_passes_96
          · refine lv_iconst (v := 2) hx hb dL_passes_82 (by decide) ?_
            refine lv_goto (tgt := 95) hx hb dL_passes_83 (by decide) ?_
            refine va_iast hx hb hK hP hD hS 0 0 rfl rfl (i := (4 : Int32)) (x := (2 : Int32)) (by unfold vp_in; decide) dL_passes_95 (fun H locs hP hD hS => ?_)
            have hP : va_P (dC, dI) vwCl [(ag, .inl (cI, 13, .inl (upd (upd (upd (upd vg ((6 : Int32)).toNatClampNeg ((vg ((6 : Int32)).toNatClampNeg) + p1)) ((11 : Int32)).toNatClampNeg (((upd vg ((6 : Int32)).toNatClampNeg ((vg ((6 : Int32)).toNatClampNeg) + p1)) ((11 : Int32)).toNatClampNeg) + (jL_passes_58_0 vg p1))) ((12 : Int32)).toNatClampNeg (((upd (upd vg ((6 : Int32)).toNatClampNeg ((vg ((6 : Int32)).toNatClampNeg) + p1)) ((11 : Int32)).toNatClampNeg (((upd vg ((6 : Int32)).toNatClampNeg ((vg ((6 : Int32)).toNatClampNeg) + p1)) ((11 : Int32)).toNatClampNeg) + (jL_passes_58_0 vg p1))) ((12 : Int32)).toNatClampNeg) + (jL_passes_74_0 vg p1))) ((4 : Int32)).toNatClampNeg (2 : Int32))))] H := hP
            have hD : va_D A [(ag, .inl (cI, 13, .inl (upd (upd (upd (upd vg ((6 : Int32)).toNatClampNeg ((vg ((6 : Int32)).toNatClampNeg) + p1)) ((11 : Int32)).toNatClampNeg (((upd vg ((6 : Int32)).toNatClampNeg ((vg ((6 : Int32)).toNatClampNeg) + p1)) ((11 : Int32)).toNatClampNeg) + (jL_passes_58_0 vg p1))) ((12 : Int32)).toNatClampNeg (((upd (upd vg ((6 : Int32)).toNatClampNeg ((vg ((6 : Int32)).toNatClampNeg) + p1)) ((11 : Int32)).toNatClampNeg (((upd vg ((6 : Int32)).toNatClampNeg ((vg ((6 : Int32)).toNatClampNeg) + p1)) ((11 : Int32)).toNatClampNeg) + (jL_passes_58_0 vg p1))) ((12 : Int32)).toNatClampNeg) + (jL_passes_74_0 vg p1))) ((4 : Int32)).toNatClampNeg (2 : Int32))))] := hD
            exact W.vret hx hb hr (fun t ht hW => ⟨⟨((upd (upd (upd (upd vg ((6 : Int32)).toNatClampNeg ((vg ((6 : Int32)).toNatClampNeg) + p1)) ((11 : Int32)).toNatClampNeg (((upd vg ((6 : Int32)).toNatClampNeg ((vg ((6 : Int32)).toNatClampNeg) + p1)) ((11 : Int32)).toNatClampNeg) + (jL_passes_58_0 vg p1))) ((12 : Int32)).toNatClampNeg (((upd (upd vg ((6 : Int32)).toNatClampNeg ((vg ((6 : Int32)).toNatClampNeg) + p1)) ((11 : Int32)).toNatClampNeg (((upd vg ((6 : Int32)).toNatClampNeg ((vg ((6 : Int32)).toNatClampNeg) + p1)) ((11 : Int32)).toNatClampNeg) + (jL_passes_58_0 vg p1))) ((12 : Int32)).toNatClampNeg) + (jL_passes_74_0 vg p1))) ((4 : Int32)).toNatClampNeg (2 : Int32))), rfl, (by unfold oL_passes_vg; rw [if_neg c_1]), (by rw [ht]; exact hP.sub [0] rfl), va_K.moved hW.alike hK, hD.sub [0] (by decide) rfl⟩, hS.F ht⟩) hS.2.2 dL_passes_96
        subst hR9; subst hQ9
        refine lv_if_eq (tgt := 73) hx hb dL_passes_66 (by decide) (fun c_3 => ?_) (fun c_3 => ?_)
        · refine lv_iconst (v := 0) hx hb dL_passes_73 (by decide) ?_
          exact J74 (0 : Int32) (by unfold jL_passes_74_0; rw [if_pos c_3]) _ _ _ hP hD hS (lv_sub hl [0, 1, 2, 3] rfl)
        · refine lv_iconst (v := 1) hx hb dL_passes_69 (by decide) ?_
          refine lv_goto (tgt := 74) hx hb dL_passes_70 (by decide) ?_
          exact J74 (1 : Int32) (by unfold jL_passes_74_0; rw [if_neg c_3]) _ _ _ hP hD hS (lv_sub hl [0, 1, 2, 3] rfl)
      subst hR9; subst hQ9
      refine lv_if_eq (tgt := 57) hx hb dL_passes_50 (by decide) (fun c_4 => ?_) (fun c_4 => ?_)
      · refine lv_iconst (v := 0) hx hb dL_passes_57 (by decide) ?_
        exact J58 (0 : Int32) (by unfold jL_passes_58_0; rw [if_pos c_4]) _ _ _ hP hD hS (lv_sub hl [0, 1, 2, 3] rfl)
      · refine lv_iconst (v := 1) hx hb dL_passes_53 (by decide) ?_
        refine lv_goto (tgt := 58) hx hb dL_passes_54 (by decide) ?_
        exact J58 (1 : Int32) (by unfold jL_passes_58_0; rw [if_neg c_4]) _ _ _ hP hD hS (lv_sub hl [0, 1, 2, 3] rfl)
    subst hR9; subst hQ9
    refine lv_if_ne (tgt := 42) hx hb dL_passes_25 (by decide) (fun c_5 => ?_) (fun c_5 => ?_)
    · refine lv_iconst (v := 0) hx hb dL_passes_42 (by decide) ?_
      exact J43 (0 : Int32) (by unfold jL_passes_43_0; rw [if_neg c_5]) _ _ _ hP hD hS (lv_sub hl [0, 1, 2] rfl)
    · refine lv_aload_n hx hb dL_passes_28 rfl (lv_at hl 1 rfl) ?_
      refine lv_bipush (v := 6) hx hb dL_passes_29 (by decide) ?_
      refine va_iald hx hb hK hP 0 0 rfl rfl (i := (6 : Int32)) (by unfold vp_in; decide) dL_passes_31 ?_
      refine lv_aload_n hx hb dL_passes_32 rfl (lv_at hl 1 rfl) ?_
      refine lv_iconst (v := 5) hx hb dL_passes_33 (by decide) ?_
      refine va_iald hx hb hK hP 0 0 rfl rfl (i := (5 : Int32)) (by unfold vp_in; decide) dL_passes_34 ?_
      refine lv_icmp_lt (tgt := 42) hx hb dL_passes_35 (by decide) (fun c_6 => ?_) (fun c_6 => ?_)
      · refine lv_iconst (v := 0) hx hb dL_passes_42 (by decide) ?_
        exact J43 (0 : Int32) (by unfold jL_passes_43_0; rw [if_pos c_5, if_pos c_6]) _ _ _ hP hD hS (lv_sub hl [0, 1, 2] rfl)
      · refine lv_iconst (v := 1) hx hb dL_passes_38 (by decide) ?_
        refine lv_goto (tgt := 43) hx hb dL_passes_39 (by decide) ?_
        exact J43 (1 : Int32) (by unfold jL_passes_43_0; rw [if_pos c_5, if_neg c_6]) _ _ _ hP hD hS (lv_sub hl [0, 1, 2] rfl)
  subst hR9; subst hQ9
  refine lv_icmp_ne (tgt := 22) hx hb dL_passes_15 (by decide) (fun c_7 => ?_) (fun c_7 => ?_)
  · refine lv_iconst (v := 0) hx hb dL_passes_22 (by decide) ?_
    exact J23 (0 : Int32) (by unfold jL_passes_23_0; rw [if_neg c_7]) _ _ _ hP hD hS (lv_sub hl [0, 1] rfl)
  · refine lv_iconst (v := 1) hx hb dL_passes_18 (by decide) ?_
    refine lv_goto (tgt := 23) hx hb dL_passes_19 (by decide) ?_
    exact J23 (1 : Int32) (by unfold jL_passes_23_0; rw [if_pos c_7]) _ _ _ hP hD hS (lv_sub hl [0, 1] rfl)

/-! L_moves -/
def jL_moves_14_0 (vg : Nat → Int32) (p1 : Int32) : Int32 := (if p1 = 0 then (0 : Int32) else (1 : Int32))
theorem bjL_moves_14_0 (vg : Nat → Int32) (p1 : Int32) : jL_moves_14_0 vg p1 = 0 ∨ jL_moves_14_0 vg p1 = 1 := by
  unfold jL_moves_14_0
  repeat' split
  all_goals first | exact Or.inl rfl | exact Or.inr rfl
def rL_moves (vg : Nat → Int32) (p1 : Int32) : Int32 := (if p1 = 0 then (1 : Int32) else (2 : Int32))
def oL_moves_vg (vg : Nat → Int32) (p1 : Int32) : Nat → Int32 := (oL_passes_vg (upd (upd vg ((7 : Int32)).toNatClampNeg ((vg ((7 : Int32)).toNatClampNeg) + (jL_moves_14_0 vg p1))) ((8 : Int32)).toNatClampNeg (((upd vg ((7 : Int32)).toNatClampNeg ((vg ((7 : Int32)).toNatClampNeg) + (jL_moves_14_0 vg p1))) ((8 : Int32)).toNatClampNeg) + (1 : Int32))) (1 : Int32))
set_option maxHeartbeats 740000 in
set_option maxRecDepth 100000 in
theorem c_L_moves (l : Launch) (hfl : l.stackTraces = false) (dC : Nat → ClassId) (dI : Nat → Nat → Nat) (cI cJ : ClassId) (ag : Nat) (sz : Nat) (vg : Nat → Int32) (p1 : Int32) : Met l yL_moves wsL_moves ({ frames := 1, cells := 0, slots := 0, locals := 23 }) (va_Pc [.ref ag, .int p1] (zI (dC, dI) [(cI, .int), (cJ, .long)] [(ag, .inl (cI, 13, .inl vg))] sz)) (va_Qi (fun (r : Int32) (u : (Nat → Int32)) => r = rL_moves vg p1 ∧ u = oL_moves_vg vg p1) (fun u => zO (dC, dI) [(cI, .int), (cJ, .long)] [(ag, .inl (cI, 13, .inl u))] (va_A [(ag, .inl (cI, 13, .inl vg))] sz)) (va_A [(ag, .inl (cI, 13, .inl vg))] sz)) 0 0 (va_A [(ag, .inl (cI, 13, .inl vg))] sz) := by
  refine Met.ofW (cc := cL_moves) (maxL := 2) (ret := (some .int)) (by decide) rfl ?_
  intro p e s m args below meth c s₁ B hml hv
  obtain ⟨rfl, hsz, hP, hK, hD0, hG⟩ := hv
  have hx := B.exec
  have hb := B.bytes
  have hr := B.returns
  have hts := atoms_spec (ws := wsL_moves) B.pre
  have hown : s.vm.findClass RL = some m.cls := findClass_of_methodNamed B.named
  have hlocks := B.notSynchronized
  subst hsz
  have hD := hD0.self (sz := s.heap.size)
  generalize hAe : va_A [(ag, .inl (cI, 13, .inl vg))] s.heap.size = A at hD hG ⊢
  have hA : ∀ q : Nat, s.heap.size ≤ q → A q := fun q h => by rw [← hAe]; exact Or.inr h
  have hS : va_S A s.heap s.heap [] := va_S.rf
  have hP : va_P (dC, dI) vwCl [(ag, .inl (cI, 13, .inl vg))] s.heap := hP
  have hl := lv_entry ([.ref ag, .int p1]) (n := 2) (Nat.le_of_ble_eq_true rfl)
  rw [lg_entry_eq]
  generalize (lg_sl ([.ref ag, .int p1]) ++ List.replicate (2 - (lg_sl ([.ref ag, .int p1])).length) Slot.unset).toArray = ls at hl ⊢
  have hl : lv_has ls 2 [(0, .ref ag), (1, .int p1)] := hl
  refine lv_aload_n hx hb dL_moves_0 rfl (lv_at hl 0 rfl) ?_
  refine lv_bipush (v := 7) hx hb dL_moves_1 (by decide) ?_
  refine lv_dup2_11 hx hb dL_moves_3 rfl rfl ?_
  refine va_iald hx hb hK hP 0 0 rfl rfl (i := (7 : Int32)) (by unfold vp_in; decide) dL_moves_4 ?_
  refine lv_iload_n hx hb dL_moves_5 rfl (lv_at hl 1 rfl) ?_
  refine zNm (fun R9 Q9 hR9 hQ9 => ?_)
  have J14 : ∀ (v14_0 : Int32), v14_0 = (jL_moves_14_0 vg p1) → ∀ (ls : Array Slot), lv_has ls 2 [(0, .ref ag), (1, .int p1)] → W p l e R9 s m ([.ref ag, .int p1] : List Value).toArray below meth c s.heap [] 0 0 Q9 (F0 m 14 ls [.int v14_0, .int (vg ((7 : Int32)).toNatClampNeg), .int (7 : Int32), .ref ag]) := by
    subst hR9; subst hQ9
    intro v14_0 hvv14_0
    rw [hvv14_0]; clear hvv14_0 v14_0
    intro ls hl
    refine lv_iadd hx hb dL_moves_14 ?_
    refine va_iast hx hb hK hP hD hS 0 0 rfl rfl (i := (7 : Int32)) (x := ((vg ((7 : Int32)).toNatClampNeg) + (jL_moves_14_0 vg p1))) (by unfold vp_in; decide) dL_moves_15 (fun H locs hP hD hS => ?_)
    have hP : va_P (dC, dI) vwCl [(ag, .inl (cI, 13, .inl (upd vg ((7 : Int32)).toNatClampNeg ((vg ((7 : Int32)).toNatClampNeg) + (jL_moves_14_0 vg p1)))))] H := hP
    have hD : va_D A [(ag, .inl (cI, 13, .inl (upd vg ((7 : Int32)).toNatClampNeg ((vg ((7 : Int32)).toNatClampNeg) + (jL_moves_14_0 vg p1)))))] := hD
    refine lv_aload_n hx hb dL_moves_16 rfl (lv_at hl 0 rfl) ?_
    refine lv_bipush (v := 8) hx hb dL_moves_17 (by decide) ?_
    refine lv_dup2_11 hx hb dL_moves_19 rfl rfl ?_
    refine va_iald hx hb hK hP 0 0 rfl rfl (i := (8 : Int32)) (by unfold vp_in; decide) dL_moves_20 ?_
    refine lv_iconst (v := 1) hx hb dL_moves_21 (by decide) ?_
    refine lv_iadd hx hb dL_moves_22 ?_
    refine va_iast hx hb hK hP hD hS 0 0 rfl rfl (i := (8 : Int32)) (x := (((upd vg ((7 : Int32)).toNatClampNeg ((vg ((7 : Int32)).toNatClampNeg) + (jL_moves_14_0 vg p1))) ((8 : Int32)).toNatClampNeg) + (1 : Int32))) (by unfold vp_in; decide) dL_moves_23 (fun H locs hP hD hS => ?_)
    have hP : va_P (dC, dI) vwCl [(ag, .inl (cI, 13, .inl (upd (upd vg ((7 : Int32)).toNatClampNeg ((vg ((7 : Int32)).toNatClampNeg) + (jL_moves_14_0 vg p1))) ((8 : Int32)).toNatClampNeg (((upd vg ((7 : Int32)).toNatClampNeg ((vg ((7 : Int32)).toNatClampNeg) + (jL_moves_14_0 vg p1))) ((8 : Int32)).toNatClampNeg) + (1 : Int32)))))] H := hP
    have hD : va_D A [(ag, .inl (cI, 13, .inl (upd (upd vg ((7 : Int32)).toNatClampNeg ((vg ((7 : Int32)).toNatClampNeg) + (jL_moves_14_0 vg p1))) ((8 : Int32)).toNatClampNeg (((upd vg ((7 : Int32)).toNatClampNeg ((vg ((7 : Int32)).toNatClampNeg) + (jL_moves_14_0 vg p1))) ((8 : Int32)).toNatClampNeg) + (1 : Int32)))))] := hD
    refine lv_aload_n hx hb dL_moves_24 rfl (lv_at hl 0 rfl) ?_
    refine lv_iconst (v := 1) hx hb dL_moves_25 (by decide) ?_
    refine zkV (wr := []) (u0 := ((oL_passes_vg (upd (upd vg ((7 : Int32)).toNatClampNeg ((vg ((7 : Int32)).toNatClampNeg) + (jL_moves_14_0 vg p1))) ((8 : Int32)).toNatClampNeg (((upd vg ((7 : Int32)).toNatClampNeg ((vg ((7 : Int32)).toNatClampNeg) + (jL_moves_14_0 vg p1))) ((8 : Int32)).toNatClampNeg) + (1 : Int32))) (1 : Int32)))) (va_runS (As := [.ref ag, .int (1 : Int32)]) (rest := []) ⟨hx, hb, hml, hown, hts⟩ (c_L_passes l hfl dC dI cI cJ ag H.size (upd (upd vg ((7 : Int32)).toNatClampNeg ((vg ((7 : Int32)).toNatClampNeg) + (jL_moves_14_0 vg p1))) ((8 : Int32)).toNatClampNeg (((upd vg ((7 : Int32)).toNatClampNeg ((vg ((7 : Int32)).toNatClampNeg) + (jL_moves_14_0 vg p1))) ((8 : Int32)).toNatClampNeg) + (1 : Int32))) (1 : Int32) ) (va_cwS 2 hts gL_moves_L_passes rfl rfl rfl (by decide +kernel) ⟨Nat.le_of_ble_eq_true rfl, Nat.le_of_ble_eq_true rfl⟩) (zpS hK hP hD hS hA hG [0] (by decide) rfl) rfl rfl hl.1 rfl (lv_room (Nat.le_of_ble_eq_true rfl)) dL_moves_26 ⟨Nat.le_of_ble_eq_true rfl, Nat.le_of_ble_eq_true rfl⟩) (fun u h => h) hP hD hS hA [0] [] rfl rfl (by decide) (by decide) (fun H locs hP hD hS => ?_)
    try dsimp only [List.cons_append, List.nil_append] at hP hD
    have hP : va_P (dC, dI) vwCl [(ag, .inl (cI, 13, .inl (oL_passes_vg (upd (upd vg ((7 : Int32)).toNatClampNeg ((vg ((7 : Int32)).toNatClampNeg) + (jL_moves_14_0 vg p1))) ((8 : Int32)).toNatClampNeg (((upd vg ((7 : Int32)).toNatClampNeg ((vg ((7 : Int32)).toNatClampNeg) + (jL_moves_14_0 vg p1))) ((8 : Int32)).toNatClampNeg) + (1 : Int32))) (1 : Int32))))] H := hP
    have hD : va_D A [(ag, .inl (cI, 13, .inl (oL_passes_vg (upd (upd vg ((7 : Int32)).toNatClampNeg ((vg ((7 : Int32)).toNatClampNeg) + (jL_moves_14_0 vg p1))) ((8 : Int32)).toNatClampNeg (((upd vg ((7 : Int32)).toNatClampNeg ((vg ((7 : Int32)).toNatClampNeg) + (jL_moves_14_0 vg p1))) ((8 : Int32)).toNatClampNeg) + (1 : Int32))) (1 : Int32))))] := hD
    refine lv_iload_n hx hb dL_moves_29 rfl (lv_at hl 1 rfl) ?_
    refine lv_if_eq (tgt := 37) hx hb dL_moves_30 (by decide) (fun c_1 => ?_) (fun c_1 => ?_)
    · refine lv_iconst (v := 1) hx hb dL_moves_37 (by decide) ?_
      exact W.iret (v := (1 : Int32)) hx hb hr (fun t ht hW => ⟨⟨(1 : Int32), ((oL_passes_vg (upd (upd vg ((7 : Int32)).toNatClampNeg ((vg ((7 : Int32)).toNatClampNeg) + (jL_moves_14_0 vg p1))) ((8 : Int32)).toNatClampNeg (((upd vg ((7 : Int32)).toNatClampNeg ((vg ((7 : Int32)).toNatClampNeg) + (jL_moves_14_0 vg p1))) ((8 : Int32)).toNatClampNeg) + (1 : Int32))) (1 : Int32))), rfl, ⟨(by unfold rL_moves; rw [if_pos c_1]), (by unfold oL_moves_vg; rfl)⟩, (by rw [ht]; exact hP.sub [0] rfl), va_K.moved hW.alike hK, hD.sub [0] (by decide) rfl⟩, hS.F ht⟩) hS.2.2 dL_moves_38
    · refine lv_iconst (v := 2) hx hb dL_moves_33 (by decide) ?_
      refine lv_goto (tgt := 38) hx hb dL_moves_34 (by decide) ?_
      exact W.iret (v := (2 : Int32)) hx hb hr (fun t ht hW => ⟨⟨(2 : Int32), ((oL_passes_vg (upd (upd vg ((7 : Int32)).toNatClampNeg ((vg ((7 : Int32)).toNatClampNeg) + (jL_moves_14_0 vg p1))) ((8 : Int32)).toNatClampNeg (((upd vg ((7 : Int32)).toNatClampNeg ((vg ((7 : Int32)).toNatClampNeg) + (jL_moves_14_0 vg p1))) ((8 : Int32)).toNatClampNeg) + (1 : Int32))) (1 : Int32))), rfl, ⟨(by unfold rL_moves; rw [if_neg c_1]), (by unfold oL_moves_vg; rfl)⟩, (by rw [ht]; exact hP.sub [0] rfl), va_K.moved hW.alike hK, hD.sub [0] (by decide) rfl⟩, hS.F ht⟩) hS.2.2 dL_moves_38
  subst hR9; subst hQ9
  refine lv_if_eq (tgt := 13) hx hb dL_moves_6 (by decide) (fun c_2 => ?_) (fun c_2 => ?_)
  · refine lv_iconst (v := 0) hx hb dL_moves_13 (by decide) ?_
    exact J14 (0 : Int32) (by unfold jL_moves_14_0; rw [if_pos c_2]) _ (lv_sub hl [0, 1] rfl)
  · refine lv_iconst (v := 1) hx hb dL_moves_9 (by decide) ?_
    refine lv_goto (tgt := 14) hx hb dL_moves_10 (by decide) ?_
    exact J14 (1 : Int32) (by unfold jL_moves_14_0; rw [if_neg c_2]) _ (lv_sub hl [0, 1] rfl)

/-! L_travelled -/
def xL_travelled (ni : Int32) (li : Int32) (mi : Int32) (mv : Int32) (nx : Int32) (al : Int32) (nc : Int32) (nl : Int32) (on : Int32) (il : Int32) (ba : Int32) (le : Nat → Int32) (wi : Nat → Int32) (pr : Nat → Int32) (tp : Nat → Int32) (gs : Int32) : Nat := (if (xX7_travel ni li mi mv nx al nc nl on il ba le wi pr tp gs) = 0 then 0 else (xX7_travel ni li mi mv nx al nc nl on il ba le wi pr tp gs))
def rL_travelled (ni : Int32) (li : Int32) (mi : Int32) (mv : Int32) (nx : Int32) (al : Int32) (nc : Int32) (nl : Int32) (on : Int32) (il : Int32) (ba : Int32) (le : Nat → Int32) (wi : Nat → Int32) (pr : Nat → Int32) (tp : Nat → Int32) (gs : Int32) : Int32 := (0 : Int32)
def oL_travelled_ba (ni : Int32) (li : Int32) (mi : Int32) (mv : Int32) (nx : Int32) (al : Int32) (nc : Int32) (nl : Int32) (on : Int32) (il : Int32) (ba : Int32) (le : Nat → Int32) (wi : Nat → Int32) (pr : Nat → Int32) (tp : Nat → Int32) (gs : Int32) : Int32 := (oX7_travel_ba ni li mi mv nx al nc nl on il ba le wi pr tp gs)
def oL_travelled_tp (ni : Int32) (li : Int32) (mi : Int32) (mv : Int32) (nx : Int32) (al : Int32) (nc : Int32) (nl : Int32) (on : Int32) (il : Int32) (ba : Int32) (le : Nat → Int32) (wi : Nat → Int32) (pr : Nat → Int32) (tp : Nat → Int32) (gs : Int32) : Nat → Int32 := (oX7_travel_tp ni li mi mv nx al nc nl on il ba le wi pr tp gs)
set_option maxHeartbeats 280000 in
set_option maxRecDepth 100000 in
theorem c_L_travelled (l : Launch) (hfl : l.stackTraces = false) (dC : Nat → ClassId) (dI : Nat → Nat → Nat) (cI cJ : ClassId) (mh sg ga gl gw gp gt ca la pl rw tw pa lg : Nat) (sz : Nat) (ni : Int32) (li : Int32) (mi : Int32) (mv : Int32) (nx : Int32) (al : Int32) (nc : Int32) (nl : Int32) (on : Int32) (il : Int32) (ba : Int32) (le : Nat → Int32) (wi : Nat → Int32) (pr : Nat → Int32) (tp : Nat → Int32) (gs : Int32) : vx_Met l yL_travelled wsL_travelled ({ frames := 8, cells := 1, slots := 6, locals := 122 }) (va_Pc [.ref mh] (zI (dC, dI) [(cI, .int), (cJ, .long)] [(mh, .inr (7, [.ref ca, .ref la, .ref sg, .ref pl, .ref rw, .ref tw, .ref ga, .ref pa, .int ni, .int li, .int mi, .int mv, .int nx, .int al, .int nc, .int nl])), (sg, .inr (5, [.ref lg, .int on, .int il, .int ba])), (ga, .inr (1, [.ref gl, .ref gw, .ref gp, .ref gt, .int gs])), (gl, .inl (cI, 6, .inl le)), (gw, .inl (cI, 6, .inl wi)), (gp, .inl (cI, 6, .inl pr)), (gt, .inl (cI, 6, .inl tp))] sz)) (va_Qi (fun (r : Int32) (u : (Int32) × (Nat → Int32)) => xL_travelled ni li mi mv nx al nc nl on il ba le wi pr tp gs = 0 ∧ r = rL_travelled ni li mi mv nx al nc nl on il ba le wi pr tp gs ∧ u.1 = oL_travelled_ba ni li mi mv nx al nc nl on il ba le wi pr tp gs ∧ u.2 = oL_travelled_tp ni li mi mv nx al nc nl on il ba le wi pr tp gs) (fun u t => zO (dC, dI) [(cI, .int), (cJ, .long)] [(mh, .inr (7, [.ref ca, .ref la, .ref sg, .ref pl, .ref rw, .ref tw, .ref ga, .ref pa, .int ni, .int li, .int mi, .int mv, .int nx, .int al, .int nc, .int nl])), (sg, .inr (5, [.ref lg, .int on, .int il, .int u.1])), (ga, .inr (1, [.ref gl, .ref gw, .ref gp, .ref gt, .int gs])), (gl, .inl (cI, 6, .inl le)), (gw, .inl (cI, 6, .inl wi)), (gp, .inl (cI, 6, .inl pr)), (gt, .inl (cI, 6, .inl u.2))] (va_A [(mh, .inr (7, [.ref ca, .ref la, .ref sg, .ref pl, .ref rw, .ref tw, .ref ga, .ref pa, .int ni, .int li, .int mi, .int mv, .int nx, .int al, .int nc, .int nl])), (sg, .inr (5, [.ref lg, .int on, .int il, .int ba])), (ga, .inr (1, [.ref gl, .ref gw, .ref gp, .ref gt, .int gs])), (gl, .inl (cI, 6, .inl le)), (gw, .inl (cI, 6, .inl wi)), (gp, .inl (cI, 6, .inl pr)), (gt, .inl (cI, 6, .inl tp))] sz) t ∧ t.heap.size = sz) (va_A [(mh, .inr (7, [.ref ca, .ref la, .ref sg, .ref pl, .ref rw, .ref tw, .ref ga, .ref pa, .int ni, .int li, .int mi, .int mv, .int nx, .int al, .int nc, .int nl])), (sg, .inr (5, [.ref lg, .int on, .int il, .int ba])), (ga, .inr (1, [.ref gl, .ref gw, .ref gp, .ref gt, .int gs])), (gl, .inl (cI, 6, .inl le)), (gw, .inl (cI, 6, .inl wi)), (gp, .inl (cI, 6, .inl pr)), (gt, .inl (cI, 6, .inl tp))] sz)) (zX (fun k => xL_travelled ni li mi mv nx al nc nl on il ba le wi pr tp gs = k ∧ k ≠ 0) sz) 1 6 (va_A [(mh, .inr (7, [.ref ca, .ref la, .ref sg, .ref pl, .ref rw, .ref tw, .ref ga, .ref pa, .int ni, .int li, .int mi, .int mv, .int nx, .int al, .int nc, .int nl])), (sg, .inr (5, [.ref lg, .int on, .int il, .int ba])), (ga, .inr (1, [.ref gl, .ref gw, .ref gp, .ref gt, .int gs])), (gl, .inl (cI, 6, .inl le)), (gw, .inl (cI, 6, .inl wi)), (gp, .inl (cI, 6, .inl pr)), (gt, .inl (cI, 6, .inl tp))] sz) := by
  refine vx_ofW (cc := cL_travelled) (maxL := 1) (ret := (some .int)) (by decide) rfl ?_
  intro p e s m args below meth c s₁ B hml hto hv
  obtain ⟨rfl, hsz, hP, hK, hD0, hG⟩ := hv
  have hx := B.exec
  have hb := B.bytes
  have hr := B.returns
  have hts := atoms_spec (ws := wsL_travelled) B.pre
  have hown : s.vm.findClass RL = some m.cls := findClass_of_methodNamed B.named
  have hlocks := B.notSynchronized
  subst hsz
  have hD := hD0.self (sz := s.heap.size)
  generalize hAe : va_A [(mh, .inr (7, [.ref ca, .ref la, .ref sg, .ref pl, .ref rw, .ref tw, .ref ga, .ref pa, .int ni, .int li, .int mi, .int mv, .int nx, .int al, .int nc, .int nl])), (sg, .inr (5, [.ref lg, .int on, .int il, .int ba])), (ga, .inr (1, [.ref gl, .ref gw, .ref gp, .ref gt, .int gs])), (gl, .inl (cI, 6, .inl le)), (gw, .inl (cI, 6, .inl wi)), (gp, .inl (cI, 6, .inl pr)), (gt, .inl (cI, 6, .inl tp))] s.heap.size = A at hD hG ⊢
  have hA : ∀ q : Nat, s.heap.size ≤ q → A q := fun q h => by rw [← hAe]; exact Or.inr h
  have hS : va_S A s.heap s.heap [] := va_S.rf
  have hP : va_P (dC, dI) vwCl [(mh, .inr (7, [.ref ca, .ref la, .ref sg, .ref pl, .ref rw, .ref tw, .ref ga, .ref pa, .int ni, .int li, .int mi, .int mv, .int nx, .int al, .int nc, .int nl])), (sg, .inr (5, [.ref lg, .int on, .int il, .int ba])), (ga, .inr (1, [.ref gl, .ref gw, .ref gp, .ref gt, .int gs])), (gl, .inl (cI, 6, .inl le)), (gw, .inl (cI, 6, .inl wi)), (gp, .inl (cI, 6, .inl pr)), (gt, .inl (cI, 6, .inl tp))] s.heap := hP
  have hl := lv_entry ([.ref mh]) (n := 1) (Nat.le_of_ble_eq_true rfl)
  rw [lg_entry_eq]
  generalize (lg_sl ([.ref mh]) ++ List.replicate (1 - (lg_sl ([.ref mh])).length) Slot.unset).toArray = ls at hl ⊢
  have hl : lv_has ls 1 [(0, .ref mh)] := hl
  refine lv_aload_n hx hb dL_travelled_0 rfl (lv_at hl 0 rfl) ?_
  refine zxV3 (wr := []) (px := fun k9 => (xX7_travel ni li mi mv nx al nc nl on il ba le wi pr tp gs) = k9 ∧ k9 ≠ 0) (P0 := (xX7_travel ni li mi mv nx al nc nl on il ba le wi pr tp gs) = 0) (u0 := ((oX7_travel_ba ni li mi mv nx al nc nl on il ba le wi pr tp gs), (oX7_travel_tp ni li mi mv nx al nc nl on il ba le wi pr tp gs))) (vx_runV (As := []) (rest := []) ⟨hx, hb, hml, hown, hts⟩ (c_X7_travel l hfl dC dI cI cJ mh sg ga gl gw gp gt ca la pl rw tw pa lg s.heap.size ni li mi mv nx al nc nl on il ba le wi pr tp gs ) (cwV 0 hts gL_travelled_X7_travel rfl rfl rfl (by decide +kernel) ⟨Nat.le_of_ble_eq_true rfl, Nat.le_of_ble_eq_true rfl⟩) (zpV hK hP hD hS hA hG [0, 1, 2, 3, 4, 5, 6] (by decide) rfl 7 0 rfl rfl) rfl rfl hl.1 rfl (lv_room (Nat.le_of_ble_eq_true rfl)) dL_travelled_1 ⟨Nat.le_of_ble_eq_true rfl, Nat.le_of_ble_eq_true rfl⟩) (fun u h => ⟨h.1, zT2 h.2.1 h.2.2⟩) hP hD hS hA [0, 1, 2, 3, 4, 5, 6] [] rfl rfl (by decide) (by decide) (fun k9 ce q9 H1 locs1 hw_1 hz1 hk1 hS1 hce hcv hcl => ?_) (fun H locs hw_1 hP hD hS => ?_)
  · exact vx_out (mc := 1) (ms := 6) (fun x h => (hto x h).elim) hlocks hce hcv hcl (fun t ht hW => ⟨k9, ⟨(by have hn9 := hw_1.2; rw [← hw_1.1] at hn9; rw [← hw_1.1]; unfold xL_travelled; rw [if_neg hn9]), hw_1.2⟩, rfl, (by rw [ht]; exact hz1), (fun q h9 _ => by rw [ht]; exact hk1 q h9)⟩) hS1.2.2 (by decide) (by decide)
  · try dsimp only [List.cons_append, List.nil_append] at hP hD
    have hP : va_P (dC, dI) vwCl [(mh, .inr (7, [.ref ca, .ref la, .ref sg, .ref pl, .ref rw, .ref tw, .ref ga, .ref pa, .int ni, .int li, .int mi, .int mv, .int nx, .int al, .int nc, .int nl])), (sg, .inr (5, [.ref lg, .int on, .int il, .int (oX7_travel_ba ni li mi mv nx al nc nl on il ba le wi pr tp gs)])), (ga, .inr (1, [.ref gl, .ref gw, .ref gp, .ref gt, .int gs])), (gl, .inl (cI, 6, .inl le)), (gw, .inl (cI, 6, .inl wi)), (gp, .inl (cI, 6, .inl pr)), (gt, .inl (cI, 6, .inl (oX7_travel_tp ni li mi mv nx al nc nl on il ba le wi pr tp gs)))] H := hP
    have hD : va_D A [(mh, .inr (7, [.ref ca, .ref la, .ref sg, .ref pl, .ref rw, .ref tw, .ref ga, .ref pa, .int ni, .int li, .int mi, .int mv, .int nx, .int al, .int nc, .int nl])), (sg, .inr (5, [.ref lg, .int on, .int il, .int (oX7_travel_ba ni li mi mv nx al nc nl on il ba le wi pr tp gs)])), (ga, .inr (1, [.ref gl, .ref gw, .ref gp, .ref gt, .int gs])), (gl, .inl (cI, 6, .inl le)), (gw, .inl (cI, 6, .inl wi)), (gp, .inl (cI, 6, .inl pr)), (gt, .inl (cI, 6, .inl (oX7_travel_tp ni li mi mv nx al nc nl on il ba le wi pr tp gs)))] := hD
    refine lv_iconst (v := 0) hx hb dL_travelled_4 (by decide) ?_
    refine zSize (fun hz9 => ?_)
    exact W.widen (k := 1) (n := 6) (by decide) (by decide) (vx_ret (W.iret (v := (0 : Int32)) hx hb hr (fun t ht hW => ⟨⟨(0 : Int32), ((oX7_travel_ba ni li mi mv nx al nc nl on il ba le wi pr tp gs), (oX7_travel_tp ni li mi mv nx al nc nl on il ba le wi pr tp gs)), rfl, ⟨(by unfold xL_travelled; rw [if_pos hw_1]), (by unfold rL_travelled; rfl), (by unfold oL_travelled_ba; rfl), (by unfold oL_travelled_tp; rfl)⟩, ⟨(by rw [ht]; exact hP.sub [0, 1, 2, 3, 4, 5, 6] rfl), va_K.moved hW.alike hK, hD.sub [0, 1, 2, 3, 4, 5, 6] (by decide) rfl⟩, by rw [ht]; exact hz9⟩, hS.F ht⟩) hS.2.2 dL_travelled_5))

/-! L_begun -/
def xL_begun (ni : Int32) (li : Int32) (mi : Int32) (mv : Int32) (nx : Int32) (al : Int32) (nc : Int32) (nl : Int32) (ki : Nat → Int32) (fi : Nat → Int32) (se : Nat → Int32) (th : Nat → Int32) (size : Int32) (on : Int32) (il : Int32) (ba : Int32) (kn : Nat → Int32) (ho : Nat → Int32) (kb0 : Nat → Int32) (hb0 : Nat → Int32) (p1 : Int32) : Nat := (if (xX7_night ni li mi mv nx al nc nl ki fi se th size on il ba kn ho kb0 hb0 p1) = 0 then 0 else (xX7_night ni li mi mv nx al nc nl ki fi se th size on il ba kn ho kb0 hb0 p1))
def rL_begun (ni : Int32) (li : Int32) (mi : Int32) (mv : Int32) (nx : Int32) (al : Int32) (nc : Int32) (nl : Int32) (ki : Nat → Int32) (fi : Nat → Int32) (se : Nat → Int32) (th : Nat → Int32) (size : Int32) (on : Int32) (il : Int32) (ba : Int32) (kn : Nat → Int32) (ho : Nat → Int32) (kb0 : Nat → Int32) (hb0 : Nat → Int32) (p1 : Int32) : Int32 := (0 : Int32)
def oL_begun_ni (ni : Int32) (li : Int32) (mi : Int32) (mv : Int32) (nx : Int32) (al : Int32) (nc : Int32) (nl : Int32) (ki : Nat → Int32) (fi : Nat → Int32) (se : Nat → Int32) (th : Nat → Int32) (size : Int32) (on : Int32) (il : Int32) (ba : Int32) (kn : Nat → Int32) (ho : Nat → Int32) (kb0 : Nat → Int32) (hb0 : Nat → Int32) (p1 : Int32) : Int32 := (oX7_night_ni ni li mi mv nx al nc nl ki fi se th size on il ba kn ho kb0 hb0 p1)
def oL_begun_li (ni : Int32) (li : Int32) (mi : Int32) (mv : Int32) (nx : Int32) (al : Int32) (nc : Int32) (nl : Int32) (ki : Nat → Int32) (fi : Nat → Int32) (se : Nat → Int32) (th : Nat → Int32) (size : Int32) (on : Int32) (il : Int32) (ba : Int32) (kn : Nat → Int32) (ho : Nat → Int32) (kb0 : Nat → Int32) (hb0 : Nat → Int32) (p1 : Int32) : Int32 := (oX7_night_li ni li mi mv nx al nc nl ki fi se th size on il ba kn ho kb0 hb0 p1)
def oL_begun_mi (ni : Int32) (li : Int32) (mi : Int32) (mv : Int32) (nx : Int32) (al : Int32) (nc : Int32) (nl : Int32) (ki : Nat → Int32) (fi : Nat → Int32) (se : Nat → Int32) (th : Nat → Int32) (size : Int32) (on : Int32) (il : Int32) (ba : Int32) (kn : Nat → Int32) (ho : Nat → Int32) (kb0 : Nat → Int32) (hb0 : Nat → Int32) (p1 : Int32) : Int32 := (oX7_night_mi ni li mi mv nx al nc nl ki fi se th size on il ba kn ho kb0 hb0 p1)
def oL_begun_mv (ni : Int32) (li : Int32) (mi : Int32) (mv : Int32) (nx : Int32) (al : Int32) (nc : Int32) (nl : Int32) (ki : Nat → Int32) (fi : Nat → Int32) (se : Nat → Int32) (th : Nat → Int32) (size : Int32) (on : Int32) (il : Int32) (ba : Int32) (kn : Nat → Int32) (ho : Nat → Int32) (kb0 : Nat → Int32) (hb0 : Nat → Int32) (p1 : Int32) : Int32 := (oX7_night_mv ni li mi mv nx al nc nl ki fi se th size on il ba kn ho kb0 hb0 p1)
def oL_begun_nx (ni : Int32) (li : Int32) (mi : Int32) (mv : Int32) (nx : Int32) (al : Int32) (nc : Int32) (nl : Int32) (ki : Nat → Int32) (fi : Nat → Int32) (se : Nat → Int32) (th : Nat → Int32) (size : Int32) (on : Int32) (il : Int32) (ba : Int32) (kn : Nat → Int32) (ho : Nat → Int32) (kb0 : Nat → Int32) (hb0 : Nat → Int32) (p1 : Int32) : Int32 := (oX7_night_nx ni li mi mv nx al nc nl ki fi se th size on il ba kn ho kb0 hb0 p1)
def oL_begun_on (ni : Int32) (li : Int32) (mi : Int32) (mv : Int32) (nx : Int32) (al : Int32) (nc : Int32) (nl : Int32) (ki : Nat → Int32) (fi : Nat → Int32) (se : Nat → Int32) (th : Nat → Int32) (size : Int32) (on : Int32) (il : Int32) (ba : Int32) (kn : Nat → Int32) (ho : Nat → Int32) (kb0 : Nat → Int32) (hb0 : Nat → Int32) (p1 : Int32) : Int32 := (oX7_night_on ni li mi mv nx al nc nl ki fi se th size on il ba kn ho kb0 hb0 p1)
def oL_begun_kn (ni : Int32) (li : Int32) (mi : Int32) (mv : Int32) (nx : Int32) (al : Int32) (nc : Int32) (nl : Int32) (ki : Nat → Int32) (fi : Nat → Int32) (se : Nat → Int32) (th : Nat → Int32) (size : Int32) (on : Int32) (il : Int32) (ba : Int32) (kn : Nat → Int32) (ho : Nat → Int32) (kb0 : Nat → Int32) (hb0 : Nat → Int32) (p1 : Int32) : Nat → Int32 := (oX7_night_kn ni li mi mv nx al nc nl ki fi se th size on il ba kn ho kb0 hb0 p1)
def oL_begun_ho (ni : Int32) (li : Int32) (mi : Int32) (mv : Int32) (nx : Int32) (al : Int32) (nc : Int32) (nl : Int32) (ki : Nat → Int32) (fi : Nat → Int32) (se : Nat → Int32) (th : Nat → Int32) (size : Int32) (on : Int32) (il : Int32) (ba : Int32) (kn : Nat → Int32) (ho : Nat → Int32) (kb0 : Nat → Int32) (hb0 : Nat → Int32) (p1 : Int32) : Nat → Int32 := (oX7_night_ho ni li mi mv nx al nc nl ki fi se th size on il ba kn ho kb0 hb0 p1)
set_option maxHeartbeats 300000 in
set_option maxRecDepth 100000 in
theorem c_L_begun (l : Launch) (hfl : l.stackTraces = false) (dC : Nat → ClassId) (dI : Nat → Nat → Nat) (cI cJ : ClassId) (mh ca ck cf cs ct sg lg kg hg la ka hh pl rw tw ga pa : Nat) (sz : Nat) (ni : Int32) (li : Int32) (mi : Int32) (mv : Int32) (nx : Int32) (al : Int32) (nc : Int32) (nl : Int32) (ki : Nat → Int32) (fi : Nat → Int32) (se : Nat → Int32) (th : Nat → Int32) (size : Int32) (on : Int32) (il : Int32) (ba : Int32) (kn : Nat → Int32) (ho : Nat → Int32) (kb0 : Nat → Int32) (hb0 : Nat → Int32) (p1 : Int32) : vx_Met l yL_begun wsL_begun ({ frames := 8, cells := 1, slots := 6, locals := 125 }) (va_Pc [.ref mh, .int p1] (zI (dC, dI) [(cI, .int), (cJ, .long)] [(mh, .inr (7, [.ref ca, .ref la, .ref sg, .ref pl, .ref rw, .ref tw, .ref ga, .ref pa, .int ni, .int li, .int mi, .int mv, .int nx, .int al, .int nc, .int nl])), (ca, .inr (0, [.ref ck, .ref cf, .ref cs, .ref ct, .int size])), (ck, .inl (cI, 12, .inl ki)), (cf, .inl (cI, 12, .inl fi)), (cs, .inl (cI, 12, .inl se)), (ct, .inl (cI, 12, .inl th)), (sg, .inr (5, [.ref lg, .int on, .int il, .int ba])), (lg, .inr (2, [.ref kg, .ref hg])), (kg, .inl (cI, 4, .inl kn)), (hg, .inl (cI, 4, .inl ho)), (la, .inr (2, [.ref ka, .ref hh])), (ka, .inl (cI, 4, .inl kb0)), (hh, .inl (cI, 4, .inl hb0))] sz)) (va_Qi (fun (r : Int32) (u : (Int32) × (Int32) × (Int32) × (Int32) × (Int32) × (Int32) × (Nat → Int32) × (Nat → Int32)) => xL_begun ni li mi mv nx al nc nl ki fi se th size on il ba kn ho kb0 hb0 p1 = 0 ∧ r = rL_begun ni li mi mv nx al nc nl ki fi se th size on il ba kn ho kb0 hb0 p1 ∧ u.1 = oL_begun_ni ni li mi mv nx al nc nl ki fi se th size on il ba kn ho kb0 hb0 p1 ∧ u.2.1 = oL_begun_li ni li mi mv nx al nc nl ki fi se th size on il ba kn ho kb0 hb0 p1 ∧ u.2.2.1 = oL_begun_mi ni li mi mv nx al nc nl ki fi se th size on il ba kn ho kb0 hb0 p1 ∧ u.2.2.2.1 = oL_begun_mv ni li mi mv nx al nc nl ki fi se th size on il ba kn ho kb0 hb0 p1 ∧ u.2.2.2.2.1 = oL_begun_nx ni li mi mv nx al nc nl ki fi se th size on il ba kn ho kb0 hb0 p1 ∧ u.2.2.2.2.2.1 = oL_begun_on ni li mi mv nx al nc nl ki fi se th size on il ba kn ho kb0 hb0 p1 ∧ u.2.2.2.2.2.2.1 = oL_begun_kn ni li mi mv nx al nc nl ki fi se th size on il ba kn ho kb0 hb0 p1 ∧ u.2.2.2.2.2.2.2 = oL_begun_ho ni li mi mv nx al nc nl ki fi se th size on il ba kn ho kb0 hb0 p1) (fun u t => zO (dC, dI) [(cI, .int), (cJ, .long)] [(mh, .inr (7, [.ref ca, .ref la, .ref sg, .ref pl, .ref rw, .ref tw, .ref ga, .ref pa, .int u.1, .int u.2.1, .int u.2.2.1, .int u.2.2.2.1, .int u.2.2.2.2.1, .int al, .int nc, .int nl])), (ca, .inr (0, [.ref ck, .ref cf, .ref cs, .ref ct, .int size])), (ck, .inl (cI, 12, .inl ki)), (cf, .inl (cI, 12, .inl fi)), (cs, .inl (cI, 12, .inl se)), (ct, .inl (cI, 12, .inl th)), (sg, .inr (5, [.ref lg, .int u.2.2.2.2.2.1, .int il, .int ba])), (lg, .inr (2, [.ref kg, .ref hg])), (kg, .inl (cI, 4, .inl u.2.2.2.2.2.2.1)), (hg, .inl (cI, 4, .inl u.2.2.2.2.2.2.2)), (la, .inr (2, [.ref ka, .ref hh])), (ka, .inl (cI, 4, .inl kb0)), (hh, .inl (cI, 4, .inl hb0))] (va_A [(mh, .inr (7, [.ref ca, .ref la, .ref sg, .ref pl, .ref rw, .ref tw, .ref ga, .ref pa, .int ni, .int li, .int mi, .int mv, .int nx, .int al, .int nc, .int nl])), (ca, .inr (0, [.ref ck, .ref cf, .ref cs, .ref ct, .int size])), (ck, .inl (cI, 12, .inl ki)), (cf, .inl (cI, 12, .inl fi)), (cs, .inl (cI, 12, .inl se)), (ct, .inl (cI, 12, .inl th)), (sg, .inr (5, [.ref lg, .int on, .int il, .int ba])), (lg, .inr (2, [.ref kg, .ref hg])), (kg, .inl (cI, 4, .inl kn)), (hg, .inl (cI, 4, .inl ho)), (la, .inr (2, [.ref ka, .ref hh])), (ka, .inl (cI, 4, .inl kb0)), (hh, .inl (cI, 4, .inl hb0))] sz) t ∧ t.heap.size = sz) (va_A [(mh, .inr (7, [.ref ca, .ref la, .ref sg, .ref pl, .ref rw, .ref tw, .ref ga, .ref pa, .int ni, .int li, .int mi, .int mv, .int nx, .int al, .int nc, .int nl])), (ca, .inr (0, [.ref ck, .ref cf, .ref cs, .ref ct, .int size])), (ck, .inl (cI, 12, .inl ki)), (cf, .inl (cI, 12, .inl fi)), (cs, .inl (cI, 12, .inl se)), (ct, .inl (cI, 12, .inl th)), (sg, .inr (5, [.ref lg, .int on, .int il, .int ba])), (lg, .inr (2, [.ref kg, .ref hg])), (kg, .inl (cI, 4, .inl kn)), (hg, .inl (cI, 4, .inl ho)), (la, .inr (2, [.ref ka, .ref hh])), (ka, .inl (cI, 4, .inl kb0)), (hh, .inl (cI, 4, .inl hb0))] sz)) (zX (fun k => xL_begun ni li mi mv nx al nc nl ki fi se th size on il ba kn ho kb0 hb0 p1 = k ∧ k ≠ 0) sz) 1 6 (va_A [(mh, .inr (7, [.ref ca, .ref la, .ref sg, .ref pl, .ref rw, .ref tw, .ref ga, .ref pa, .int ni, .int li, .int mi, .int mv, .int nx, .int al, .int nc, .int nl])), (ca, .inr (0, [.ref ck, .ref cf, .ref cs, .ref ct, .int size])), (ck, .inl (cI, 12, .inl ki)), (cf, .inl (cI, 12, .inl fi)), (cs, .inl (cI, 12, .inl se)), (ct, .inl (cI, 12, .inl th)), (sg, .inr (5, [.ref lg, .int on, .int il, .int ba])), (lg, .inr (2, [.ref kg, .ref hg])), (kg, .inl (cI, 4, .inl kn)), (hg, .inl (cI, 4, .inl ho)), (la, .inr (2, [.ref ka, .ref hh])), (ka, .inl (cI, 4, .inl kb0)), (hh, .inl (cI, 4, .inl hb0))] sz) := by
  refine vx_ofW (cc := cL_begun) (maxL := 2) (ret := (some .int)) (by decide) rfl ?_
  intro p e s m args below meth c s₁ B hml hto hv
  obtain ⟨rfl, hsz, hP, hK, hD0, hG⟩ := hv
  have hx := B.exec
  have hb := B.bytes
  have hr := B.returns
  have hts := atoms_spec (ws := wsL_begun) B.pre
  have hown : s.vm.findClass RL = some m.cls := findClass_of_methodNamed B.named
  have hlocks := B.notSynchronized
  subst hsz
  have hD := hD0.self (sz := s.heap.size)
  generalize hAe : va_A [(mh, .inr (7, [.ref ca, .ref la, .ref sg, .ref pl, .ref rw, .ref tw, .ref ga, .ref pa, .int ni, .int li, .int mi, .int mv, .int nx, .int al, .int nc, .int nl])), (ca, .inr (0, [.ref ck, .ref cf, .ref cs, .ref ct, .int size])), (ck, .inl (cI, 12, .inl ki)), (cf, .inl (cI, 12, .inl fi)), (cs, .inl (cI, 12, .inl se)), (ct, .inl (cI, 12, .inl th)), (sg, .inr (5, [.ref lg, .int on, .int il, .int ba])), (lg, .inr (2, [.ref kg, .ref hg])), (kg, .inl (cI, 4, .inl kn)), (hg, .inl (cI, 4, .inl ho)), (la, .inr (2, [.ref ka, .ref hh])), (ka, .inl (cI, 4, .inl kb0)), (hh, .inl (cI, 4, .inl hb0))] s.heap.size = A at hD hG ⊢
  have hA : ∀ q : Nat, s.heap.size ≤ q → A q := fun q h => by rw [← hAe]; exact Or.inr h
  have hS : va_S A s.heap s.heap [] := va_S.rf
  have hP : va_P (dC, dI) vwCl [(mh, .inr (7, [.ref ca, .ref la, .ref sg, .ref pl, .ref rw, .ref tw, .ref ga, .ref pa, .int ni, .int li, .int mi, .int mv, .int nx, .int al, .int nc, .int nl])), (ca, .inr (0, [.ref ck, .ref cf, .ref cs, .ref ct, .int size])), (ck, .inl (cI, 12, .inl ki)), (cf, .inl (cI, 12, .inl fi)), (cs, .inl (cI, 12, .inl se)), (ct, .inl (cI, 12, .inl th)), (sg, .inr (5, [.ref lg, .int on, .int il, .int ba])), (lg, .inr (2, [.ref kg, .ref hg])), (kg, .inl (cI, 4, .inl kn)), (hg, .inl (cI, 4, .inl ho)), (la, .inr (2, [.ref ka, .ref hh])), (ka, .inl (cI, 4, .inl kb0)), (hh, .inl (cI, 4, .inl hb0))] s.heap := hP
  have hl := lv_entry ([.ref mh, .int p1]) (n := 2) (Nat.le_of_ble_eq_true rfl)
  rw [lg_entry_eq]
  generalize (lg_sl ([.ref mh, .int p1]) ++ List.replicate (2 - (lg_sl ([.ref mh, .int p1])).length) Slot.unset).toArray = ls at hl ⊢
  have hl : lv_has ls 2 [(0, .ref mh), (1, .int p1)] := hl
  refine lv_aload_n hx hb dL_begun_0 rfl (lv_at hl 0 rfl) ?_
  refine lv_iload_n hx hb dL_begun_1 rfl (lv_at hl 1 rfl) ?_
  refine zxV3 (wr := []) (px := fun k9 => (xX7_night ni li mi mv nx al nc nl ki fi se th size on il ba kn ho kb0 hb0 p1) = k9 ∧ k9 ≠ 0) (P0 := (xX7_night ni li mi mv nx al nc nl ki fi se th size on il ba kn ho kb0 hb0 p1) = 0) (u0 := ((oX7_night_ni ni li mi mv nx al nc nl ki fi se th size on il ba kn ho kb0 hb0 p1), (oX7_night_li ni li mi mv nx al nc nl ki fi se th size on il ba kn ho kb0 hb0 p1), (oX7_night_mi ni li mi mv nx al nc nl ki fi se th size on il ba kn ho kb0 hb0 p1), (oX7_night_mv ni li mi mv nx al nc nl ki fi se th size on il ba kn ho kb0 hb0 p1), (oX7_night_nx ni li mi mv nx al nc nl ki fi se th size on il ba kn ho kb0 hb0 p1), (oX7_night_on ni li mi mv nx al nc nl ki fi se th size on il ba kn ho kb0 hb0 p1), (oX7_night_kn ni li mi mv nx al nc nl ki fi se th size on il ba kn ho kb0 hb0 p1), (oX7_night_ho ni li mi mv nx al nc nl ki fi se th size on il ba kn ho kb0 hb0 p1))) (vx_runV (As := [.int p1]) (rest := []) ⟨hx, hb, hml, hown, hts⟩ (c_X7_night l hfl dC dI cI cJ mh ca ck cf cs ct sg lg kg hg la ka hh pl rw tw ga pa s.heap.size ni li mi mv nx al nc nl ki fi se th size on il ba kn ho kb0 hb0 p1 ) (cwV 1 hts gL_begun_X7_night rfl rfl rfl (by decide +kernel) ⟨Nat.le_of_ble_eq_true rfl, Nat.le_of_ble_eq_true rfl⟩) (zpV hK hP hD hS hA hG [0, 1, 2, 3, 4, 5, 6, 7, 8, 9, 10, 11, 12] (by decide) rfl 7 0 rfl rfl) rfl rfl hl.1 rfl (lv_room (Nat.le_of_ble_eq_true rfl)) dL_begun_2 ⟨Nat.le_of_ble_eq_true rfl, Nat.le_of_ble_eq_true rfl⟩) (fun u h => ⟨h.1, zT8 h.2.1 h.2.2.1 h.2.2.2.1 h.2.2.2.2.1 h.2.2.2.2.2.1 h.2.2.2.2.2.2.1 h.2.2.2.2.2.2.2.1 h.2.2.2.2.2.2.2.2⟩) hP hD hS hA [0, 1, 2, 3, 4, 5, 6, 7, 8, 9, 10, 11, 12] [] rfl rfl (by decide) (by decide) (fun k9 ce q9 H1 locs1 hw_1 hz1 hk1 hS1 hce hcv hcl => ?_) (fun H locs hw_1 hP hD hS => ?_)
  · exact vx_out (mc := 1) (ms := 6) (fun x h => (hto x h).elim) hlocks hce hcv hcl (fun t ht hW => ⟨k9, ⟨(by have hn9 := hw_1.2; rw [← hw_1.1] at hn9; rw [← hw_1.1]; unfold xL_begun; rw [if_neg hn9]), hw_1.2⟩, rfl, (by rw [ht]; exact hz1), (fun q h9 _ => by rw [ht]; exact hk1 q h9)⟩) hS1.2.2 (by decide) (by decide)
  · try dsimp only [List.cons_append, List.nil_append] at hP hD
    have hP : va_P (dC, dI) vwCl [(mh, .inr (7, [.ref ca, .ref la, .ref sg, .ref pl, .ref rw, .ref tw, .ref ga, .ref pa, .int (oX7_night_ni ni li mi mv nx al nc nl ki fi se th size on il ba kn ho kb0 hb0 p1), .int (oX7_night_li ni li mi mv nx al nc nl ki fi se th size on il ba kn ho kb0 hb0 p1), .int (oX7_night_mi ni li mi mv nx al nc nl ki fi se th size on il ba kn ho kb0 hb0 p1), .int (oX7_night_mv ni li mi mv nx al nc nl ki fi se th size on il ba kn ho kb0 hb0 p1), .int (oX7_night_nx ni li mi mv nx al nc nl ki fi se th size on il ba kn ho kb0 hb0 p1), .int al, .int nc, .int nl])), (ca, .inr (0, [.ref ck, .ref cf, .ref cs, .ref ct, .int size])), (ck, .inl (cI, 12, .inl ki)), (cf, .inl (cI, 12, .inl fi)), (cs, .inl (cI, 12, .inl se)), (ct, .inl (cI, 12, .inl th)), (sg, .inr (5, [.ref lg, .int (oX7_night_on ni li mi mv nx al nc nl ki fi se th size on il ba kn ho kb0 hb0 p1), .int il, .int ba])), (lg, .inr (2, [.ref kg, .ref hg])), (kg, .inl (cI, 4, .inl (oX7_night_kn ni li mi mv nx al nc nl ki fi se th size on il ba kn ho kb0 hb0 p1))), (hg, .inl (cI, 4, .inl (oX7_night_ho ni li mi mv nx al nc nl ki fi se th size on il ba kn ho kb0 hb0 p1))), (la, .inr (2, [.ref ka, .ref hh])), (ka, .inl (cI, 4, .inl kb0)), (hh, .inl (cI, 4, .inl hb0))] H := hP
    have hD : va_D A [(mh, .inr (7, [.ref ca, .ref la, .ref sg, .ref pl, .ref rw, .ref tw, .ref ga, .ref pa, .int (oX7_night_ni ni li mi mv nx al nc nl ki fi se th size on il ba kn ho kb0 hb0 p1), .int (oX7_night_li ni li mi mv nx al nc nl ki fi se th size on il ba kn ho kb0 hb0 p1), .int (oX7_night_mi ni li mi mv nx al nc nl ki fi se th size on il ba kn ho kb0 hb0 p1), .int (oX7_night_mv ni li mi mv nx al nc nl ki fi se th size on il ba kn ho kb0 hb0 p1), .int (oX7_night_nx ni li mi mv nx al nc nl ki fi se th size on il ba kn ho kb0 hb0 p1), .int al, .int nc, .int nl])), (ca, .inr (0, [.ref ck, .ref cf, .ref cs, .ref ct, .int size])), (ck, .inl (cI, 12, .inl ki)), (cf, .inl (cI, 12, .inl fi)), (cs, .inl (cI, 12, .inl se)), (ct, .inl (cI, 12, .inl th)), (sg, .inr (5, [.ref lg, .int (oX7_night_on ni li mi mv nx al nc nl ki fi se th size on il ba kn ho kb0 hb0 p1), .int il, .int ba])), (lg, .inr (2, [.ref kg, .ref hg])), (kg, .inl (cI, 4, .inl (oX7_night_kn ni li mi mv nx al nc nl ki fi se th size on il ba kn ho kb0 hb0 p1))), (hg, .inl (cI, 4, .inl (oX7_night_ho ni li mi mv nx al nc nl ki fi se th size on il ba kn ho kb0 hb0 p1))), (la, .inr (2, [.ref ka, .ref hh])), (ka, .inl (cI, 4, .inl kb0)), (hh, .inl (cI, 4, .inl hb0))] := hD
    refine lv_iconst (v := 0) hx hb dL_begun_5 (by decide) ?_
    refine zSize (fun hz9 => ?_)
    exact W.widen (k := 1) (n := 6) (by decide) (by decide) (vx_ret (W.iret (v := (0 : Int32)) hx hb hr (fun t ht hW => ⟨⟨(0 : Int32), ((oX7_night_ni ni li mi mv nx al nc nl ki fi se th size on il ba kn ho kb0 hb0 p1), (oX7_night_li ni li mi mv nx al nc nl ki fi se th size on il ba kn ho kb0 hb0 p1), (oX7_night_mi ni li mi mv nx al nc nl ki fi se th size on il ba kn ho kb0 hb0 p1), (oX7_night_mv ni li mi mv nx al nc nl ki fi se th size on il ba kn ho kb0 hb0 p1), (oX7_night_nx ni li mi mv nx al nc nl ki fi se th size on il ba kn ho kb0 hb0 p1), (oX7_night_on ni li mi mv nx al nc nl ki fi se th size on il ba kn ho kb0 hb0 p1), (oX7_night_kn ni li mi mv nx al nc nl ki fi se th size on il ba kn ho kb0 hb0 p1), (oX7_night_ho ni li mi mv nx al nc nl ki fi se th size on il ba kn ho kb0 hb0 p1)), rfl, ⟨(by unfold xL_begun; rw [if_pos hw_1]), (by unfold rL_begun; rfl), (by unfold oL_begun_ni; rfl), (by unfold oL_begun_li; rfl), (by unfold oL_begun_mi; rfl), (by unfold oL_begun_mv; rfl), (by unfold oL_begun_nx; rfl), (by unfold oL_begun_on; rfl), (by unfold oL_begun_kn; rfl), (by unfold oL_begun_ho; rfl)⟩, ⟨(by rw [ht]; exact hP.sub [0, 1, 2, 3, 4, 5, 6, 7, 8, 9, 10, 11, 12] rfl), va_K.moved hW.alike hK, hD.sub [0, 1, 2, 3, 4, 5, 6, 7, 8, 9, 10, 11, 12] (by decide) rfl⟩, by rw [ht]; exact hz9⟩, hS.F ht⟩) hS.2.2 dL_begun_6))
theorem bxL_travelled (ni : Int32) (li : Int32) (mi : Int32) (mv : Int32) (nx : Int32) (al : Int32) (nc : Int32) (nl : Int32) (on : Int32) (il : Int32) (ba : Int32) (le : Nat → Int32) (wi : Nat → Int32) (pr : Nat → Int32) (tp : Nat → Int32) (gs : Int32) : xL_travelled ni li mi mv nx al nc nl on il ba le wi pr tp gs = 0 ∨ xL_travelled ni li mi mv nx al nc nl on il ba le wi pr tp gs = 3 := by
  have h0 := bxX7_travel ni li mi mv nx al nc nl on il ba le wi pr tp gs
  unfold xL_travelled
  repeat' split
  all_goals omega
theorem bxL_begun (ni : Int32) (li : Int32) (mi : Int32) (mv : Int32) (nx : Int32) (al : Int32) (nc : Int32) (nl : Int32) (ki : Nat → Int32) (fi : Nat → Int32) (se : Nat → Int32) (th : Nat → Int32) (size : Int32) (on : Int32) (il : Int32) (ba : Int32) (kn : Nat → Int32) (ho : Nat → Int32) (kb0 : Nat → Int32) (hb0 : Nat → Int32) (p1 : Int32) : xL_begun ni li mi mv nx al nc nl ki fi se th size on il ba kn ho kb0 hb0 p1 = 0 ∨ xL_begun ni li mi mv nx al nc nl ki fi se th size on il ba kn ho kb0 hb0 p1 = 2 ∨ xL_begun ni li mi mv nx al nc nl ki fi se th size on il ba kn ho kb0 hb0 p1 = 3 := by
  have h0 := bxX7_night ni li mi mv nx al nc nl ki fi se th size on il ba kn ho kb0 hb0 p1
  unfold xL_begun
  repeat' split
  all_goals omega
