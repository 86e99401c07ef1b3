/-! L_isTold -/
def jL_isTold_4_810_0 (ni : Int32) (li : Int32) (mi : Int32) (mv : Int32) (nx : Int32) (al : Int32) (nc : Int32) (nl : Int32) (on : Int32) (il : Int32) (ba : Int32) (vg : Nat → Int32) (p1 : Int32) (p2 : Int32) : Int32 := (if (zRem p1 (13 : Int32)) = (12 : Int32) then (6 : Int32) else (zRem p1 (6 : Int32)))
def jL_isTold_4_844_0 (ni : Int32) (li : Int32) (mi : Int32) (mv : Int32) (nx : Int32) (al : Int32) (nc : Int32) (nl : Int32) (on : Int32) (il : Int32) (ba : Int32) (vg : Nat → Int32) (p1 : Int32) (p2 : Int32) : (Nat → Int32) := (if (6 : Int32) ≤ (jL_isTold_4_810_0 ni li mi mv nx al nc nl on il ba vg p1 p2) then vg else (upd (upd vg ((1 : Int32)).toNatClampNeg ((vg ((1 : Int32)).toNatClampNeg) ^^^ ((1 : Int32) <<< ((jL_isTold_4_810_0 ni li mi mv nx al nc nl on il ba vg p1 p2) &&& 31)))) ((9 : Int32)).toNatClampNeg (((upd vg ((1 : Int32)).toNatClampNeg ((vg ((1 : Int32)).toNatClampNeg) ^^^ ((1 : Int32) <<< ((jL_isTold_4_810_0 ni li mi mv nx al nc nl on il ba vg p1 p2) &&& 31)))) ((9 : Int32)).toNatClampNeg) &&& (((upd vg ((1 : Int32)).toNatClampNeg ((vg ((1 : Int32)).toNatClampNeg) ^^^ ((1 : Int32) <<< ((jL_isTold_4_810_0 ni li mi mv nx al nc nl on il ba vg p1 p2) &&& 31)))) ((1 : Int32)).toNatClampNeg) ^^^ (-1 : Int32)))))
def jL_isTold_4_875_0 (ni : Int32) (li : Int32) (mi : Int32) (mv : Int32) (nx : Int32) (al : Int32) (nc : Int32) (nl : Int32) (on : Int32) (il : Int32) (ba : Int32) (vg : Nat → Int32) (p1 : Int32) (p2 : Int32) : Int32 := (if (jL_isTold_4_810_0 ni li mi mv nx al nc nl on il ba vg p1 p2) = (6 : Int32) then (-3000000 : Int32) else ((((jL_isTold_4_844_0 ni li mi mv nx al nc nl on il ba vg p1 p2) ((1 : Int32)).toNatClampNeg) >>> ((jL_isTold_4_810_0 ni li mi mv nx al nc nl on il ba vg p1 p2) &&& 31)) &&& (1 : Int32)))
def rL_isTold_4 (ni : Int32) (li : Int32) (mi : Int32) (mv : Int32) (nx : Int32) (al : Int32) (nc : Int32) (nl : Int32) (on : Int32) (il : Int32) (ba : Int32) (vg : Nat → Int32) (p1 : Int32) (p2 : Int32) : Int32 := (if (rL_does_4 ni li mi mv nx al nc nl on il ba (jL_isTold_4_810_0 ni li mi mv nx al nc nl on il ba vg p1 p2) (0 : Int32) (0 : Int32) (0 : Int32)) = (jL_isTold_4_875_0 ni li mi mv nx al nc nl on il ba vg p1 p2) then (1 : Int32) else (0 : Int32))
def oL_isTold_4_on (ni : Int32) (li : Int32) (mi : Int32) (mv : Int32) (nx : Int32) (al : Int32) (nc : Int32) (nl : Int32) (on : Int32) (il : Int32) (ba : Int32) (vg : Nat → Int32) (p1 : Int32) (p2 : Int32) : Int32 := (oL_does_4_on ni li mi mv nx al nc nl on il ba (jL_isTold_4_810_0 ni li mi mv nx al nc nl on il ba vg p1 p2) (0 : Int32) (0 : Int32) (0 : Int32))
def oL_isTold_4_il (ni : Int32) (li : Int32) (mi : Int32) (mv : Int32) (nx : Int32) (al : Int32) (nc : Int32) (nl : Int32) (on : Int32) (il : Int32) (ba : Int32) (vg : Nat → Int32) (p1 : Int32) (p2 : Int32) : Int32 := (oL_does_4_il ni li mi mv nx al nc nl on il ba (jL_isTold_4_810_0 ni li mi mv nx al nc nl on il ba vg p1 p2) (0 : Int32) (0 : Int32) (0 : Int32))
def oL_isTold_4_vg (ni : Int32) (li : Int32) (mi : Int32) (mv : Int32) (nx : Int32) (al : Int32) (nc : Int32) (nl : Int32) (on : Int32) (il : Int32) (ba : Int32) (vg : Nat → Int32) (p1 : Int32) (p2 : Int32) : Nat → Int32 := (jL_isTold_4_844_0 ni li mi mv nx al nc nl on il ba vg p1 p2)
set_option maxRecDepth 20000 in
theorem kL_isTold_4_0 : Cond.constant RL 84 (-3000000) ∈ wsL_isTold := by decide +kernel
set_option maxHeartbeats 4820000 in
set_option maxRecDepth 100000 in
theorem c_L_isTold_4 (l : Launch) (hfl : l.stackTraces = false) (dC : Nat → ClassId) (dI : Nat → Nat → Nat) (cI cJ : ClassId) (mh sg ag ak ah ac ae aq ca la pl rw tw ga pa lg : Nat) (sz : Nat) (ni : Int32) (li : Int32) (mi : Int32) (mv : Int32) (nx : Int32) (al : Int32) (nc : Int32) (nl : Int32) (on : Int32) (il : Int32) (ba : Int32) (vg : Nat → Int32) (p1 : Int32) (p2 : Int32) : Met l yL_isTold wsL_isTold ({ frames := 9, cells := 1, slots := 6, locals := 149 }) (va_Pc [.ref mh, .ref ak, .ref ah, .ref ac, .ref ae, .ref aq, .ref ag, .int (4 : Int32), .int p1, .int p2] (zI (dC, dI) [(cI, .int), (cJ, .long)] [(mh, .inr (7, [.ref ca, .ref la, .ref sg, .ref pl, .ref rw, .ref tw, .ref ga, .ref pa, .int ni, .int li, .int mi, .int mv, .int nx, .int al, .int nc, .int nl])), (sg, .inr (5, [.ref lg, .int on, .int il, .int ba])), (ag, .inl (cI, 13, .inl vg))] sz)) (va_Qi (fun (r : Int32) (u : (Int32) × (Int32) × (Nat → Int32)) => r = rL_isTold_4 ni li mi mv nx al nc nl on il ba vg p1 p2 ∧ u.1 = oL_isTold_4_on ni li mi mv nx al nc nl on il ba vg p1 p2 ∧ u.2.1 = oL_isTold_4_il ni li mi mv nx al nc nl on il ba vg p1 p2 ∧ u.2.2 = oL_isTold_4_vg ni li mi mv nx al nc nl on il ba vg p1 p2) (fun u => zO (dC, dI) [(cI, .int), (cJ, .long)] [(mh, .inr (7, [.ref ca, .ref la, .ref sg, .ref pl, .ref rw, .ref tw, .ref ga, .ref pa, .int ni, .int li, .int mi, .int mv, .int nx, .int al, .int nc, .int nl])), (sg, .inr (5, [.ref lg, .int u.1, .int u.2.1, .int ba])), (ag, .inl (cI, 13, .inl u.2.2))] (va_A [(mh, .inr (7, [.ref ca, .ref la, .ref sg, .ref pl, .ref rw, .ref tw, .ref ga, .ref pa, .int ni, .int li, .int mi, .int mv, .int nx, .int al, .int nc, .int nl])), (sg, .inr (5, [.ref lg, .int on, .int il, .int ba])), (ag, .inl (cI, 13, .inl vg))] sz)) (va_A [(mh, .inr (7, [.ref ca, .ref la, .ref sg, .ref pl, .ref rw, .ref tw, .ref ga, .ref pa, .int ni, .int li, .int mi, .int mv, .int nx, .int al, .int nc, .int nl])), (sg, .inr (5, [.ref lg, .int on, .int il, .int ba])), (ag, .inl (cI, 13, .inl vg))] sz)) 1 6 (va_A [(mh, .inr (7, [.ref ca, .ref la, .ref sg, .ref pl, .ref rw, .ref tw, .ref ga, .ref pa, .int ni, .int li, .int mi, .int mv, .int nx, .int al, .int nc, .int nl])), (sg, .inr (5, [.ref lg, .int on, .int il, .int ba])), (ag, .inl (cI, 13, .inl vg))] sz) := by
  refine Met.ofW (cc := cL_isTold) (maxL := 17) (ret := (some .boolean)) (by decide) rfl ?_
  intro p e s m args below meth c s₁ B hml hv
  obtain ⟨rfl, hsz, hP, hK, hD0, hG⟩ := hv
  have hx := B.exec
  have hb := B.bytes
  have hr := B.returns
  have hts := atoms_spec (ws := wsL_isTold) B.pre
  have hown : s.vm.findClass RL = some m.cls := findClass_of_methodNamed B.named
  have hlocks := B.notSynchronized
  subst hsz
  have hD := hD0.self (sz := s.heap.size)
  generalize hAe : va_A [(mh, .inr (7, [.ref ca, .ref la, .ref sg, .ref pl, .ref rw, .ref tw, .ref ga, .ref pa, .int ni, .int li, .int mi, .int mv, .int nx, .int al, .int nc, .int nl])), (sg, .inr (5, [.ref lg, .int on, .int il, .int ba])), (ag, .inl (cI, 13, .inl vg))] s.heap.size = A at hD hG ⊢
  have hA : ∀ q : Nat, s.heap.size ≤ q → A q := fun q h => by rw [← hAe]; exact Or.inr h
  have hS : va_S A s.heap s.heap [] := va_S.rf
  have hP : va_P (dC, dI) vwCl [(mh, .inr (7, [.ref ca, .ref la, .ref sg, .ref pl, .ref rw, .ref tw, .ref ga, .ref pa, .int ni, .int li, .int mi, .int mv, .int nx, .int al, .int nc, .int nl])), (sg, .inr (5, [.ref lg, .int on, .int il, .int ba])), (ag, .inl (cI, 13, .inl vg))] s.heap := hP
  have hl := lv_entry ([.ref mh, .ref ak, .ref ah, .ref ac, .ref ae, .ref aq, .ref ag, .int (4 : Int32), .int p1, .int p2]) (n := 17) (Nat.le_of_ble_eq_true rfl)
  rw [lg_entry_eq]
  generalize (lg_sl ([.ref mh, .ref ak, .ref ah, .ref ac, .ref ae, .ref aq, .ref ag, .int (4 : Int32), .int p1, .int p2]) ++ List.replicate (17 - (lg_sl ([.ref mh, .ref ak, .ref ah, .ref ac, .ref ae, .ref aq, .ref ag, .int (4 : Int32), .int p1, .int p2])).length) Slot.unset).toArray = ls at hl ⊢
  have hl : lv_has ls 17 [(0, .ref mh), (1, .ref ak), (2, .ref ah), (3, .ref ac), (4, .ref ae), (5, .ref aq), (6, .ref ag), (7, .int (4 : Int32)), (8, .int p1), (9, .int p2)] := hl
  refine lv_iload hx hb dL_isTold_0 (lv_at hl 7 rfl) ?_
  refine lv_if_ne (tgt := 207) hx hb dL_isTold_2 (by decide) (fun c_1 => ?_) (fun c_1 => ?_)
  · refine lv_iload hx hb dL_isTold_207 (lv_at hl 7 rfl) ?_
    refine lv_iconst (v := 1) hx hb dL_isTold_209 (by decide) ?_
    refine lv_icmp_ne (tgt := 371) hx hb dL_isTold_210 (by decide) (fun c_2 => ?_) (fun c_2 => ?_)
    · refine lv_iload hx hb dL_isTold_371 (lv_at hl 7 rfl) ?_
      refine lv_iconst (v := 2) hx hb dL_isTold_373 (by decide) ?_
      refine lv_icmp_ne (tgt := 628) hx hb dL_isTold_374 (by decide) (fun c_3 => ?_) (fun c_3 => ?_)
      · refine lv_iload hx hb dL_isTold_628 (lv_at hl 7 rfl) ?_
        refine lv_iconst (v := 3) hx hb dL_isTold_630 (by decide) ?_
        refine lv_icmp_ne (tgt := 784) hx hb dL_isTold_631 (by decide) (fun c_4 => ?_) (fun c_4 => ?_)
        · refine lv_iload hx hb dL_isTold_784 (lv_at hl 7 rfl) ?_
          refine lv_iconst (v := 4) hx hb dL_isTold_786 (by decide) ?_
          refine lv_icmp_ne (tgt := 884) hx hb dL_isTold_787 (by decide) (fun c_5 => ?_) (fun c_5 => ?_)
          · exact absurd (show (4 : Int32) = (4 : Int32) from by decide) c_5
          · refine lv_iload hx hb dL_isTold_790 (lv_at hl 8 rfl) ?_
            refine lv_bipush (v := 13) hx hb dL_isTold_792 (by decide) ?_
            refine zvRem hx hb dL_isTold_794 (by decide) ?_
            refine lv_bipush (v := 12) hx hb dL_isTold_795 (by decide) ?_
            refine zNm (fun R9 Q9 hR9 hQ9 => ?_)
            have J810 : ∀ (v810_0 : Int32), v810_0 = (jL_isTold_4_810_0 ni li mi mv nx al nc nl on il ba vg p1 p2) → ∀ (ls : Array Slot), lv_has ls 17 [(0, .ref mh), (1, .ref ak), (2, .ref ah), (3, .ref ac), (4, .ref ae), (5, .ref aq), (6, .ref ag), (7, .int (4 : Int32)), (8, .int p1), (9, .int p2)] → W p l e R9 s m ([.ref mh, .ref ak, .ref ah, .ref ac, .ref ae, .ref aq, .ref ag, .int (4 : Int32), .int p1, .int p2] : List Value).toArray below meth c s.heap [] 0 0 Q9 (F0 m 810 ls [.int v810_0]) := by
              subst hR9; subst hQ9
              intro v810_0 hvv810_0
              rw [hvv810_0]; clear hvv810_0 v810_0
              intro ls hl
              refine lv_istore (lv' := [(10, .int (jL_isTold_4_810_0 ni li mi mv nx al nc nl on il ba vg p1 p2)), (0, .ref mh), (1, .ref ak), (2, .ref ah), (3, .ref ac), (4, .ref ae), (5, .ref aq), (6, .ref ag), (7, .int (4 : Int32)), (8, .int p1), (9, .int p2)]) hx hb dL_isTold_810 hl (by decide) rfl (fun ls hl => ?_)
              refine lv_iload hx hb dL_isTold_812 (lv_at hl 0 rfl) ?_
              refine lv_bipush (v := 6) hx hb dL_isTold_814 (by decide) ?_
              refine zNm (fun R9 Q9 hR9 hQ9 => ?_)
              have J844 : ∀ (v844_0 : (Nat → Int32)), v844_0 = (jL_isTold_4_844_0 ni li mi mv nx al nc nl on il ba vg p1 p2) → ∀ (H : Heap) (locs : List Loc) (ls : Array Slot), va_P (dC, dI) vwCl [(mh, .inr (7, [.ref ca, .ref la, .ref sg, .ref pl, .ref rw, .ref tw, .ref ga, .ref pa, .int ni, .int li, .int mi, .int mv, .int nx, .int al, .int nc, .int nl])), (sg, .inr (5, [.ref lg, .int on, .int il, .int ba])), (ag, .inl (cI, 13, .inl v844_0))] H → va_D A [(mh, .inr (7, [.ref ca, .ref la, .ref sg, .ref pl, .ref rw, .ref tw, .ref ga, .ref pa, .int ni, .int li, .int mi, .int mv, .int nx, .int al, .int nc, .int nl])), (sg, .inr (5, [.ref lg, .int on, .int il, .int ba])), (ag, .inl (cI, 13, .inl v844_0))] → va_S A s.heap H locs → lv_has ls 17 [(10, .int (jL_isTold_4_810_0 ni li mi mv nx al nc nl on il ba vg p1 p2)), (0, .ref mh), (1, .ref ak), (2, .ref ah), (3, .ref ac), (4, .ref ae), (5, .ref aq), (6, .ref ag), (7, .int (4 : Int32)), (8, .int p1), (9, .int p2)] → W p l e R9 s m ([.ref mh, .ref ak, .ref ah, .ref ac, .ref ae, .ref aq, .ref ag, .int (4 : Int32), .int p1, .int p2] : List Value).toArray below meth c H locs 0 0 Q9 (F0 m 844 ls []) := by
                subst hR9; subst hQ9
                intro v844_0 hvv844_0
                rw [hvv844_0]; clear hvv844_0 v844_0
                intro H locs ls hP hD hS hl
                refine lv_aload_n hx hb dL_isTold_844 rfl (lv_at hl 1 rfl) ?_
                refine lv_iconst (v := 4) hx hb dL_isTold_845 (by decide) ?_
                refine lv_iload hx hb dL_isTold_846 (lv_at hl 0 rfl) ?_
                refine lv_iconst (v := 0) hx hb dL_isTold_848 (by decide) ?_
                refine lv_iconst (v := 0) hx hb dL_isTold_849 (by decide) ?_
                refine lv_iconst (v := 0) hx hb dL_isTold_850 (by decide) ?_
                refine zkI (wr := [(ag, .inl (cI, 13, .inl (jL_isTold_4_844_0 ni li mi mv nx al nc nl on il ba vg p1 p2)))]) (r0 := (rL_does_4 ni li mi mv nx al nc nl on il ba (jL_isTold_4_810_0 ni li mi mv nx al nc nl on il ba vg p1 p2) (0 : Int32) (0 : Int32) (0 : Int32))) (u0 := ((oL_does_4_on ni li mi mv nx al nc nl on il ba (jL_isTold_4_810_0 ni li mi mv nx al nc nl on il ba vg p1 p2) (0 : Int32) (0 : Int32) (0 : Int32)), (oL_does_4_il ni li mi mv nx al nc nl on il ba (jL_isTold_4_810_0 ni li mi mv nx al nc nl on il ba vg p1 p2) (0 : Int32) (0 : Int32) (0 : Int32)))) (vx_runSW (As := [.ref mh, .int (4 : Int32), .int (jL_isTold_4_810_0 ni li mi mv nx al nc nl on il ba vg p1 p2), .int (0 : Int32), .int (0 : Int32), .int (0 : Int32)]) (rest := []) ⟨hx, hb, hml, hown, hts⟩ (c_L_does_4 l hfl dC dI cI cJ mh sg ca la pl rw tw ga pa lg H.size ni li mi mv nx al nc nl on il ba (jL_isTold_4_810_0 ni li mi mv nx al nc nl on il ba vg p1 p2) (0 : Int32) (0 : Int32) (0 : Int32) ) (vx_cwSW 6 hts gL_isTold_L_does rfl rfl rfl (by decide +kernel) ⟨Nat.le_of_ble_eq_true rfl, Nat.le_of_ble_eq_true rfl⟩) (zpS hK hP hD hS hA hG [0, 1] (by decide) rfl) rfl rfl hl.1 rfl (lv_room (Nat.le_of_ble_eq_true rfl)) dL_isTold_851 ⟨Nat.le_of_ble_eq_true rfl, Nat.le_of_ble_eq_true rfl⟩) (fun r u h => ⟨h.1, zT2 h.2.1 h.2.2⟩) hP hD hS hA [0, 1] [2] rfl rfl (by decide) (by decide) (fun H locs hP hD hS => ?_)
                try dsimp only [List.cons_append, List.nil_append] at hP hD
                have hP : va_P (dC, dI) vwCl [(ag, .inl (cI, 13, .inl (jL_isTold_4_844_0 ni li mi mv nx al nc nl on il ba vg p1 p2))), (mh, .inr (7, [.ref ca, .ref la, .ref sg, .ref pl, .ref rw, .ref tw, .ref ga, .ref pa, .int ni, .int li, .int mi, .int mv, .int nx, .int al, .int nc, .int nl])), (sg, .inr (5, [.ref lg, .int (oL_does_4_on ni li mi mv nx al nc nl on il ba (jL_isTold_4_810_0 ni li mi mv nx al nc nl on il ba vg p1 p2) (0 : Int32) (0 : Int32) (0 : Int32)), .int (oL_does_4_il ni li mi mv nx al nc nl on il ba (jL_isTold_4_810_0 ni li mi mv nx al nc nl on il ba vg p1 p2) (0 : Int32) (0 : Int32) (0 : Int32)), .int ba]))] H := hP
                have hD : va_D A [(ag, .inl (cI, 13, .inl (jL_isTold_4_844_0 ni li mi mv nx al nc nl on il ba vg p1 p2))), (mh, .inr (7, [.ref ca, .ref la, .ref sg, .ref pl, .ref rw, .ref tw, .ref ga, .ref pa, .int ni, .int li, .int mi, .int mv, .int nx, .int al, .int nc, .int nl])), (sg, .inr (5, [.ref lg, .int (oL_does_4_on ni li mi mv nx al nc nl on il ba (jL_isTold_4_810_0 ni li mi mv nx al nc nl on il ba vg p1 p2) (0 : Int32) (0 : Int32) (0 : Int32)), .int (oL_does_4_il ni li mi mv nx al nc nl on il ba (jL_isTold_4_810_0 ni li mi mv nx al nc nl on il ba vg p1 p2) (0 : Int32) (0 : Int32) (0 : Int32)), .int ba]))] := hD
                refine W.widen (k := 1) (n := 6) (by decide) (by decide) ?_
                refine lv_iload hx hb dL_isTold_854 (lv_at hl 0 rfl) ?_
                refine lv_bipush (v := 6) hx hb dL_isTold_856 (by decide) ?_
                refine zNm (fun R9 Q9 hR9 hQ9 => ?_)
                have J875 : ∀ (v875_0 : Int32), v875_0 = (jL_isTold_4_875_0 ni li mi mv nx al nc nl on il ba vg p1 p2) → ∀ (H : Heap) (locs : List Loc) (ls : Array Slot), va_P (dC, dI) vwCl [(ag, .inl (cI, 13, .inl (jL_isTold_4_844_0 ni li mi mv nx al nc nl on il ba vg p1 p2))), (mh, .inr (7, [.ref ca, .ref la, .ref sg, .ref pl, .ref rw, .ref tw, .ref ga, .ref pa, .int ni, .int li, .int mi, .int mv, .int nx, .int al, .int nc, .int nl])), (sg, .inr (5, [.ref lg, .int (oL_does_4_on ni li mi mv nx al nc nl on il ba (jL_isTold_4_810_0 ni li mi mv nx al nc nl on il ba vg p1 p2) (0 : Int32) (0 : Int32) (0 : Int32)), .int (oL_does_4_il ni li mi mv nx al nc nl on il ba (jL_isTold_4_810_0 ni li mi mv nx al nc nl on il ba vg p1 p2) (0 : Int32) (0 : Int32) (0 : Int32)), .int ba]))] H → va_D A [(ag, .inl (cI, 13, .inl (jL_isTold_4_844_0 ni li mi mv nx al nc nl on il ba vg p1 p2))), (mh, .inr (7, [.ref ca, .ref la, .ref sg, .ref pl, .ref rw, .ref tw, .ref ga, .ref pa, .int ni, .int li, .int mi, .int mv, .int nx, .int al, .int nc, .int nl])), (sg, .inr (5, [.ref lg, .int (oL_does_4_on ni li mi mv nx al nc nl on il ba (jL_isTold_4_810_0 ni li mi mv nx al nc nl on il ba vg p1 p2) (0 : Int32) (0 : Int32) (0 : Int32)), .int (oL_does_4_il ni li mi mv nx al nc nl on il ba (jL_isTold_4_810_0 ni li mi mv nx al nc nl on il ba vg p1 p2) (0 : Int32) (0 : Int32) (0 : Int32)), .int ba]))] → va_S A s.heap H locs → lv_has ls 17 [(10, .int (jL_isTold_4_810_0 ni li mi mv nx al nc nl on il ba vg p1 p2)), (0, .ref mh), (1, .ref ak), (2, .ref ah), (3, .ref ac), (4, .ref ae), (5, .ref aq), (6, .ref ag), (7, .int (4 : Int32)), (8, .int p1), (9, .int p2)] → W p l e R9 s m ([.ref mh, .ref ak, .ref ah, .ref ac, .ref ae, .ref aq, .ref ag, .int (4 : Int32), .int p1, .int p2] : List Value).toArray below meth c H locs 1 6 Q9 (F0 m 875 ls [.int v875_0, .int (rL_does_4 ni li mi mv nx al nc nl on il ba (jL_isTold_4_810_0 ni li mi mv nx al nc nl on il ba vg p1 p2) (0 : Int32) (0 : Int32) (0 : Int32))]) := by
                  subst hR9; subst hQ9
                  intro v875_0 hvv875_0
                  rw [hvv875_0]; clear hvv875_0 v875_0
                  intro H locs ls hP hD hS hl
                  refine lv_icmp_ne (tgt := 882) hx hb dL_isTold_875 (by decide) (fun c_6 => ?_) (fun c_6 => ?_)
                  · refine lv_iconst (v := 0) hx hb dL_isTold_882 (by decide) ?_
                    refine W.widen (k := 1) (n := 6) (by decide) (by decide) ?_
                    exact W.zret (v := (0 : Int32)) hx hb hr (zNar (Or.inl rfl)) (fun t ht hW => ⟨⟨(0 : Int32), ((oL_does_4_on ni li mi mv nx al nc nl on il ba (jL_isTold_4_810_0 ni li mi mv nx al nc nl on il ba vg p1 p2) (0 : Int32) (0 : Int32) (0 : Int32)), (oL_does_4_il ni li mi mv nx al nc nl on il ba (jL_isTold_4_810_0 ni li mi mv nx al nc nl on il ba vg p1 p2) (0 : Int32) (0 : Int32) (0 : Int32)), (jL_isTold_4_844_0 ni li mi mv nx al nc nl on il ba vg p1 p2)), rfl, ⟨(by unfold rL_isTold_4; rw [if_neg c_6]), (by unfold oL_isTold_4_on; rfl), (by unfold oL_isTold_4_il; rfl), (by unfold oL_isTold_4_vg; rfl)⟩, (by (try dsimp only); rw [ht]; exact hP.sub [1, 2, 0] rfl), va_K.moved hW.alike hK, (by (try dsimp only); exact hD.sub [1, 2, 0] (by decide) rfl)⟩, hS.F ht⟩) hS.2.2 dL_isTold_883
                  · refine lv_iconst (v := 1) hx hb dL_isTold_878 (by decide) ?_
                    refine lv_goto (tgt := 883) hx hb dL_isTold_879 (by decide) ?_
                    refine W.widen (k := 1) (n := 6) (by decide) (by decide) ?_
                    exact W.zret (v := (1 : Int32)) hx hb hr (zNar (Or.inr rfl)) (fun t ht hW => ⟨⟨(1 : Int32), ((oL_does_4_on ni li mi mv nx al nc nl on il ba (jL_isTold_4_810_0 ni li mi mv nx al nc nl on il ba vg p1 p2) (0 : Int32) (0 : Int32) (0 : Int32)), (oL_does_4_il ni li mi mv nx al nc nl on il ba (jL_isTold_4_810_0 ni li mi mv nx al nc nl on il ba vg p1 p2) (0 : Int32) (0 : Int32) (0 : Int32)), (jL_isTold_4_844_0 ni li mi mv nx al nc nl on il ba vg p1 p2)), rfl, ⟨(by unfold rL_isTold_4; rw [if_pos c_6]), (by unfold oL_isTold_4_on; rfl), (by unfold oL_isTold_4_il; rfl), (by unfold oL_isTold_4_vg; rfl)⟩, (by (try dsimp only); rw [ht]; exact hP.sub [1, 2, 0] rfl), va_K.moved hW.alike hK, (by (try dsimp only); exact hD.sub [1, 2, 0] (by decide) rfl)⟩, hS.F ht⟩) hS.2.2 dL_isTold_883
                subst hR9; subst hQ9
                refine lv_icmp_ne (tgt := 866) hx hb dL_isTold_858 (by decide) (fun c_7 => ?_) (fun c_7 => ?_)
                · refine lv_aload hx hb dL_isTold_866 (lv_at hl 7 rfl) ?_
                  refine lv_iconst (v := 1) hx hb dL_isTold_868 (by decide) ?_
                  refine va_iald hx hb hK hP 0 0 rfl rfl (i := (1 : Int32)) (by unfold vp_in; decide) dL_isTold_869 ?_
                  refine lv_iload hx hb dL_isTold_870 (lv_at hl 0 rfl) ?_
                  refine lv_ishr hx hb dL_isTold_872 ?_
                  refine lv_iconst (v := 1) hx hb dL_isTold_873 (by decide) ?_
                  refine lv_iand hx hb dL_isTold_874 ?_
                  exact J875 ((((jL_isTold_4_844_0 ni li mi mv nx al nc nl on il ba vg p1 p2) ((1 : Int32)).toNatClampNeg) >>> ((jL_isTold_4_810_0 ni li mi mv nx al nc nl on il ba vg p1 p2) &&& 31)) &&& (1 : Int32)) (by unfold jL_isTold_4_875_0; rw [if_neg c_7]) _ _ _ hP hD hS (lv_sub hl [0, 1, 2, 3, 4, 5, 6, 7, 8, 9, 10] rfl)
                · refine lv_ldc (v := -3000000) hx hb hown (hts _ kL_isTold_4_0) dL_isTold_861 ?_
                  refine lv_goto (tgt := 875) hx hb dL_isTold_863 (by decide) ?_
                  exact J875 (-3000000 : Int32) (by unfold jL_isTold_4_875_0; rw [if_pos c_7]) _ _ _ hP hD hS (lv_sub hl [0, 1, 2, 3, 4, 5, 6, 7, 8, 9, 10] rfl)
              subst hR9; subst hQ9
              refine lv_icmp_ge (tgt := 844) hx hb dL_isTold_816 (by decide) (fun c_8 => ?_) (fun c_8 => ?_)
              · exact J844 vg (by unfold jL_isTold_4_844_0; rw [if_pos c_8]) _ _ _ hP hD hS (lv_sub hl [0, 1, 2, 3, 4, 5, 6, 7, 8, 9, 10] rfl)
              · refine lv_aload hx hb dL_isTold_819 (lv_at hl 7 rfl) ?_
                refine lv_iconst (v := 1) hx hb dL_isTold_821 (by decide) ?_
                refine lv_dup2_11 hx hb dL_isTold_822 rfl rfl ?_
                refine va_iald hx hb hK hP 2 0 rfl rfl (i := (1 : Int32)) (by unfold vp_in; decide) dL_isTold_823 ?_
                refine lv_iconst (v := 1) hx hb dL_isTold_824 (by decide) ?_
                refine lv_iload hx hb dL_isTold_825 (lv_at hl 0 rfl) ?_
                refine lv_ishl hx hb dL_isTold_827 ?_
                refine lv_ixor hx hb dL_isTold_828 ?_
                refine va_iast hx hb hK hP hD hS 2 0 rfl rfl (i := (1 : Int32)) (x := ((vg ((1 : Int32)).toNatClampNeg) ^^^ ((1 : Int32) <<< ((jL_isTold_4_810_0 ni li mi mv nx al nc nl on il ba vg p1 p2) &&& 31)))) (by unfold vp_in; decide) dL_isTold_829 (fun H locs hP hD hS => ?_)
                have hP : va_P (dC, dI) vwCl [(mh, .inr (7, [.ref ca, .ref la, .ref sg, .ref pl, .ref rw, .ref tw, .ref ga, .ref pa, .int ni, .int li, .int mi, .int mv, .int nx, .int al, .int nc, .int nl])), (sg, .inr (5, [.ref lg, .int on, .int il, .int ba])), (ag, .inl (cI, 13, .inl (upd vg ((1 : Int32)).toNatClampNeg ((vg ((1 : Int32)).toNatClampNeg) ^^^ ((1 : Int32) <<< ((jL_isTold_4_810_0 ni li mi mv nx al nc nl on il ba vg p1 p2) &&& 31))))))] H := hP
                have hD : va_D A [(mh, .inr (7, [.ref ca, .ref la, .ref sg, .ref pl, .ref rw, .ref tw, .ref ga, .ref pa, .int ni, .int li, .int mi, .int mv, .int nx, .int al, .int nc, .int nl])), (sg, .inr (5, [.ref lg, .int on, .int il, .int ba])), (ag, .inl (cI, 13, .inl (upd vg ((1 : Int32)).toNatClampNeg ((vg ((1 : Int32)).toNatClampNeg) ^^^ ((1 : Int32) <<< ((jL_isTold_4_810_0 ni li mi mv nx al nc nl on il ba vg p1 p2) &&& 31))))))] := hD
                refine lv_aload hx hb dL_isTold_830 (lv_at hl 7 rfl) ?_
                refine lv_bipush (v := 9) hx hb dL_isTold_832 (by decide) ?_
                refine lv_dup2_11 hx hb dL_isTold_834 rfl rfl ?_
                refine va_iald hx hb hK hP 2 0 rfl rfl (i := (9 : Int32)) (by unfold vp_in; decide) dL_isTold_835 ?_
                refine lv_aload hx hb dL_isTold_836 (lv_at hl 7 rfl) ?_
                refine lv_iconst (v := 1) hx hb dL_isTold_838 (by decide) ?_
                refine va_iald hx hb hK hP 2 0 rfl rfl (i := (1 : Int32)) (by unfold vp_in; decide) dL_isTold_839 ?_
                refine lv_iconst (v := -1) hx hb dL_isTold_840 (by decide) ?_
                refine lv_ixor hx hb dL_isTold_841 ?_
                refine lv_iand hx hb dL_isTold_842 ?_
                refine va_iast hx hb hK hP hD hS 2 0 rfl rfl (i := (9 : Int32)) (x := (((upd vg ((1 : Int32)).toNatClampNeg ((vg ((1 : Int32)).toNatClampNeg) ^^^ ((1 : Int32) <<< ((jL_isTold_4_810_0 ni li mi mv nx al nc nl on il ba vg p1 p2) &&& 31)))) ((9 : Int32)).toNatClampNeg) &&& (((upd vg ((1 : Int32)).toNatClampNeg ((vg ((1 : Int32)).toNatClampNeg) ^^^ ((1 : Int32) <<< ((jL_isTold_4_810_0 ni li mi mv nx al nc nl on il ba vg p1 p2) &&& 31)))) ((1 : Int32)).toNatClampNeg) ^^^ (-1 : Int32)))) (by unfold vp_in; decide) dL_isTold_843 (fun H locs hP hD hS => ?_)
                have hP : va_P (dC, dI) vwCl [(mh, .inr (7, [.ref ca, .ref la, .ref sg, .ref pl, .ref rw, .ref tw, .ref ga, .ref pa, .int ni, .int li, .int mi, .int mv, .int nx, .int al, .int nc, .int nl])), (sg, .inr (5, [.ref lg, .int on, .int il, .int ba])), (ag, .inl (cI, 13, .inl (upd (upd vg ((1 : Int32)).toNatClampNeg ((vg ((1 : Int32)).toNatClampNeg) ^^^ ((1 : Int32) <<< ((jL_isTold_4_810_0 ni li mi mv nx al nc nl on il ba vg p1 p2) &&& 31)))) ((9 : Int32)).toNatClampNeg (((upd vg ((1 : Int32)).toNatClampNeg ((vg ((1 : Int32)).toNatClampNeg) ^^^ ((1 : Int32) <<< ((jL_isTold_4_810_0 ni li mi mv nx al nc nl on il ba vg p1 p2) &&& 31)))) ((9 : Int32)).toNatClampNeg) &&& (((upd vg ((1 : Int32)).toNatClampNeg ((vg ((1 : Int32)).toNatClampNeg) ^^^ ((1 : Int32) <<< ((jL_isTold_4_810_0 ni li mi mv nx al nc nl on il ba vg p1 p2) &&& 31)))) ((1 : Int32)).toNatClampNeg) ^^^ (-1 : Int32))))))] H := hP
                have hD : va_D A [(mh, .inr (7, [.ref ca, .ref la, .ref sg, .ref pl, .ref rw, .ref tw, .ref ga, .ref pa, .int ni, .int li, .int mi, .int mv, .int nx, .int al, .int nc, .int nl])), (sg, .inr (5, [.ref lg, .int on, .int il, .int ba])), (ag, .inl (cI, 13, .inl (upd (upd vg ((1 : Int32)).toNatClampNeg ((vg ((1 : Int32)).toNatClampNeg) ^^^ ((1 : Int32) <<< ((jL_isTold_4_810_0 ni li mi mv nx al nc nl on il ba vg p1 p2) &&& 31)))) ((9 : Int32)).toNatClampNeg (((upd vg ((1 : Int32)).toNatClampNeg ((vg ((1 : Int32)).toNatClampNeg) ^^^ ((1 : Int32) <<< ((jL_isTold_4_810_0 ni li mi mv nx al nc nl on il ba vg p1 p2) &&& 31)))) ((9 : Int32)).toNatClampNeg) &&& (((upd vg ((1 : Int32)).toNatClampNeg ((vg ((1 : Int32)).toNatClampNeg) ^^^ ((1 : Int32) <<< ((jL_isTold_4_810_0 ni li mi mv nx al nc nl on il ba vg p1 p2) &&& 31)))) ((1 : Int32)).toNatClampNeg) ^^^ (-1 : Int32))))))] := hD
                exact J844 (upd (upd vg ((1 : Int32)).toNatClampNeg ((vg ((1 : Int32)).toNatClampNeg) ^^^ ((1 : Int32) <<< ((jL_isTold_4_810_0 ni li mi mv nx al nc nl on il ba vg p1 p2) &&& 31)))) ((9 : Int32)).toNatClampNeg (((upd vg ((1 : Int32)).toNatClampNeg ((vg ((1 : Int32)).toNatClampNeg) ^^^ ((1 : Int32) <<< ((jL_isTold_4_810_0 ni li mi mv nx al nc nl on il ba vg p1 p2) &&& 31)))) ((9 : Int32)).toNatClampNeg) &&& (((upd vg ((1 : Int32)).toNatClampNeg ((vg ((1 : Int32)).toNatClampNeg) ^^^ ((1 : Int32) <<< ((jL_isTold_4_810_0 ni li mi mv nx al nc nl on il ba vg p1 p2) &&& 31)))) ((1 : Int32)).toNatClampNeg) ^^^ (-1 : Int32)))) (by unfold jL_isTold_4_844_0; rw [if_neg c_8]) _ _ _ hP hD hS (lv_sub hl [0, 1, 2, 3, 4, 5, 6, 7, 8, 9, 10] rfl)
            subst hR9; subst hQ9
            refine lv_icmp_ne (tgt := 805) hx hb dL_isTold_797 (by decide) (fun c_9 => ?_) (fun c_9 => ?_)
            · refine lv_iload hx hb dL_isTold_805 (lv_at hl 8 rfl) ?_
              refine lv_bipush (v := 6) hx hb dL_isTold_807 (by decide) ?_
              refine zvRem hx hb dL_isTold_809 (by decide) ?_
              exact J810 (zRem p1 (6 : Int32)) (by unfold jL_isTold_4_810_0; rw [if_neg c_9]) _ (lv_sub hl [0, 1, 2, 3, 4, 5, 6, 7, 8, 9] rfl)
            · refine lv_bipush (v := 6) hx hb dL_isTold_800 (by decide) ?_
              refine lv_goto (tgt := 810) hx hb dL_isTold_802 (by decide) ?_
              exact J810 (6 : Int32) (by unfold jL_isTold_4_810_0; rw [if_pos c_9]) _ (lv_sub hl [0, 1, 2, 3, 4, 5, 6, 7, 8, 9] rfl)
        · exact absurd c_4 (by decide)
      · exact absurd c_3 (by decide)
    · exact absurd c_2 (by decide)
  · exact absurd c_1 (by decide)
theorem brL_isTold_4 (ni : Int32) (li : Int32) (mi : Int32) (mv : Int32) (nx : Int32) (al : Int32) (nc : Int32) (nl : Int32) (on : Int32) (il : Int32) (ba : Int32) (vg : Nat → Int32) (p1 : Int32) (p2 : Int32) : rL_isTold_4 ni li mi mv nx al nc nl on il ba vg p1 p2 = 0 ∨ rL_isTold_4 ni li mi mv nx al nc nl on il ba vg p1 p2 = 1 := by
  unfold rL_isTold_4
  repeat' split
  all_goals first | exact Or.inl rfl | exact Or.inr rfl
