/-! L_isTold -/
def jL_isTold_5_915_0 (ni : Int32) (li : Int32) (mi : Int32) (mv : Int32) (nx : Int32) (al : Int32) (nc : Int32) (nl : Int32) (on : Int32) (il : Int32) (ba : Int32) (vg : Nat → Int32) (p1 : Int32) (p2 : Int32) : Int32 := (if (4 : Int32) ≤ (zRem p1 (5 : Int32)) then (0 : Int32) else ((1 : Int32) <<< ((zRem p1 (5 : Int32)) &&& 31)))
def jL_isTold_5_947_0 (ni : Int32) (li : Int32) (mi : Int32) (mv : Int32) (nx : Int32) (al : Int32) (nc : Int32) (nl : Int32) (on : Int32) (il : Int32) (ba : Int32) (vg : Nat → Int32) (p1 : Int32) (p2 : Int32) : Int32 := (if (zRem p1 (5 : Int32)) = (4 : Int32) then (-3000000 : Int32) else ((((upd vg ((2 : Int32)).toNatClampNeg ((vg ((2 : Int32)).toNatClampNeg) ^^^ (jL_isTold_5_915_0 ni li mi mv nx al nc nl on il ba vg p1 p2))) ((2 : Int32)).toNatClampNeg) >>> ((zRem p1 (5 : Int32)) &&& 31)) &&& (1 : Int32)))
def rL_isTold_5 (ni : Int32) (li : Int32) (mi : Int32) (mv : Int32) (nx : Int32) (al : Int32) (nc : Int32) (nl : Int32) (on : Int32) (il : Int32) (ba : Int32) (vg : Nat → Int32) (p1 : Int32) (p2 : Int32) : Int32 := (if (rL_does_5 ni li mi mv nx al nc nl on il ba (zRem p1 (5 : Int32)) (0 : Int32) (0 : Int32) (0 : Int32)) = (jL_isTold_5_947_0 ni li mi mv nx al nc nl on il ba vg p1 p2) then (1 : Int32) else (0 : Int32))
def oL_isTold_5_ba (ni : Int32) (li : Int32) (mi : Int32) (mv : Int32) (nx : Int32) (al : Int32) (nc : Int32) (nl : Int32) (on : Int32) (il : Int32) (ba : Int32) (vg : Nat → Int32) (p1 : Int32) (p2 : Int32) : Int32 := (oL_does_5_ba ni li mi mv nx al nc nl on il ba (zRem p1 (5 : Int32)) (0 : Int32) (0 : Int32) (0 : Int32))
def oL_isTold_5_vg (ni : Int32) (li : Int32) (mi : Int32) (mv : Int32) (nx : Int32) (al : Int32) (nc : Int32) (nl : Int32) (on : Int32) (il : Int32) (ba : Int32) (vg : Nat → Int32) (p1 : Int32) (p2 : Int32) : Nat → Int32 := (upd vg ((2 : Int32)).toNatClampNeg ((vg ((2 : Int32)).toNatClampNeg) ^^^ (jL_isTold_5_915_0 ni li mi mv nx al nc nl on il ba vg p1 p2)))
set_option maxRecDepth 20000 in
theorem kL_isTold_5_0 : Cond.constant RL 84 (-3000000) ∈ wsL_isTold := by decide +kernel
set_option maxHeartbeats 3980000 in
set_option maxRecDepth 100000 in
theorem c_L_isTold_5 (l : Launch) (hfl : l.stackTraces = false) (dC : Nat → ClassId) (dI : Nat → Nat → Nat) (cI cJ : ClassId) (mh sg ag ak ah ac ae aq ca la pl rw tw ga pa lg : Nat) (sz : Nat) (ni : Int32) (li : Int32) (mi : Int32) (mv : Int32) (nx : Int32) (al : Int32) (nc : Int32) (nl : Int32) (on : Int32) (il : Int32) (ba : Int32) (vg : Nat → Int32) (p1 : Int32) (p2 : Int32) : Met l yL_isTold wsL_isTold ({ frames := 9, cells := 1, slots := 6, locals := 149 }) (va_Pc [.ref mh, .ref ak, .ref ah, .ref ac, .ref ae, .ref aq, .ref ag, .int (5 : Int32), .int p1, .int p2] (zI (dC, dI) [(cI, .int), (cJ, .long)] [(mh, .inr (7, [.ref ca, .ref la, .ref sg, .ref pl, .ref rw, .ref tw, .ref ga, .ref pa, .int ni, .int li, .int mi, .int mv, .int nx, .int al, .int nc, .int nl])), (sg, .inr (5, [.ref lg, .int on, .int il, .int ba])), (ag, .inl (cI, 13, .inl vg))] sz)) (va_Qi (fun (r : Int32) (u : (Int32) × (Nat → Int32)) => r = rL_isTold_5 ni li mi mv nx al nc nl on il ba vg p1 p2 ∧ u.1 = oL_isTold_5_ba ni li mi mv nx al nc nl on il ba vg p1 p2 ∧ u.2 = oL_isTold_5_vg ni li mi mv nx al nc nl on il ba vg p1 p2) (fun u => zO (dC, dI) [(cI, .int), (cJ, .long)] [(mh, .inr (7, [.ref ca, .ref la, .ref sg, .ref pl, .ref rw, .ref tw, .ref ga, .ref pa, .int ni, .int li, .int mi, .int mv, .int nx, .int al, .int nc, .int nl])), (sg, .inr (5, [.ref lg, .int on, .int il, .int u.1])), (ag, .inl (cI, 13, .inl u.2))] (va_A [(mh, .inr (7, [.ref ca, .ref la, .ref sg, .ref pl, .ref rw, .ref tw, .ref ga, .ref pa, .int ni, .int li, .int mi, .int mv, .int nx, .int al, .int nc, .int nl])), (sg, .inr (5, [.ref lg, .int on, .int il, .int ba])), (ag, .inl (cI, 13, .inl vg))] sz)) (va_A [(mh, .inr (7, [.ref ca, .ref la, .ref sg, .ref pl, .ref rw, .ref tw, .ref ga, .ref pa, .int ni, .int li, .int mi, .int mv, .int nx, .int al, .int nc, .int nl])), (sg, .inr (5, [.ref lg, .int on, .int il, .int ba])), (ag, .inl (cI, 13, .inl vg))] sz)) 1 6 (va_A [(mh, .inr (7, [.ref ca, .ref la, .ref sg, .ref pl, .ref rw, .ref tw, .ref ga, .ref pa, .int ni, .int li, .int mi, .int mv, .int nx, .int al, .int nc, .int nl])), (sg, .inr (5, [.ref lg, .int on, .int il, .int ba])), (ag, .inl (cI, 13, .inl vg))] sz) := by
  refine Met.ofW (cc := cL_isTold) (maxL := 17) (ret := (some .boolean)) (by decide) rfl ?_
  intro p e s m args below meth c s₁ B hml hv
  obtain ⟨rfl, hsz, hP, hK, hD0, hG⟩ := hv
  have hx := B.exec
  have hb := B.bytes
  have hr := B.returns
  have hts := atoms_spec (ws := wsL_isTold) B.pre
  have hown : s.vm.findClass RL = some m.cls := findClass_of_methodNamed B.named
  have hlocks := B.notSynchronized
  subst hsz
  have hD := hD0.self (sz := s.heap.size)
  generalize hAe : va_A [(mh, .inr (7, [.ref ca, .ref la, .ref sg, .ref pl, .ref rw, .ref tw, .ref ga, .ref pa, .int ni, .int li, .int mi, .int mv, .int nx, .int al, .int nc, .int nl])), (sg, .inr (5, [.ref lg, .int on, .int il, .int ba])), (ag, .inl (cI, 13, .inl vg))] s.heap.size = A at hD hG ⊢
  have hA : ∀ q : Nat, s.heap.size ≤ q → A q := fun q h => by rw [← hAe]; exact Or.inr h
  have hS : va_S A s.heap s.heap [] := va_S.rf
  have hP : va_P (dC, dI) vwCl [(mh, .inr (7, [.ref ca, .ref la, .ref sg, .ref pl, .ref rw, .ref tw, .ref ga, .ref pa, .int ni, .int li, .int mi, .int mv, .int nx, .int al, .int nc, .int nl])), (sg, .inr (5, [.ref lg, .int on, .int il, .int ba])), (ag, .inl (cI, 13, .inl vg))] s.heap := hP
  have hl := lv_entry ([.ref mh, .ref ak, .ref ah, .ref ac, .ref ae, .ref aq, .ref ag, .int (5 : Int32), .int p1, .int p2]) (n := 17) (Nat.le_of_ble_eq_true rfl)
  rw [lg_entry_eq]
  generalize (lg_sl ([.ref mh, .ref ak, .ref ah, .ref ac, .ref ae, .ref aq, .ref ag, .int (5 : Int32), .int p1, .int p2]) ++ List.replicate (17 - (lg_sl ([.ref mh, .ref ak, .ref ah, .ref ac, .ref ae, .ref aq, .ref ag, .int (5 : Int32), .int p1, .int p2])).length) Slot.unset).toArray = ls at hl ⊢
  have hl : lv_has ls 17 [(0, .ref mh), (1, .ref ak), (2, .ref ah), (3, .ref ac), (4, .ref ae), (5, .ref aq), (6, .ref ag), (7, .int (5 : Int32)), (8, .int p1), (9, .int p2)] := hl
  refine lv_iload hx hb dL_isTold_0 (lv_at hl 7 rfl) ?_
  refine lv_if_ne (tgt := 207) hx hb dL_isTold_2 (by decide) (fun c_1 => ?_) (fun c_1 => ?_)
  · refine lv_iload hx hb dL_isTold_207 (lv_at hl 7 rfl) ?_
    refine lv_iconst (v := 1) hx hb dL_isTold_209 (by decide) ?_
    refine lv_icmp_ne (tgt := 371) hx hb dL_isTold_210 (by decide) (fun c_2 => ?_) (fun c_2 => ?_)
    · refine lv_iload hx hb dL_isTold_371 (lv_at hl 7 rfl) ?_
      refine lv_iconst (v := 2) hx hb dL_isTold_373 (by decide) ?_
      refine lv_icmp_ne (tgt := 628) hx hb dL_isTold_374 (by decide) (fun c_3 => ?_) (fun c_3 => ?_)
      · refine lv_iload hx hb dL_isTold_628 (lv_at hl 7 rfl) ?_
        refine lv_iconst (v := 3) hx hb dL_isTold_630 (by decide) ?_
        refine lv_icmp_ne (tgt := 784) hx hb dL_isTold_631 (by decide) (fun c_4 => ?_) (fun c_4 => ?_)
        · refine lv_iload hx hb dL_isTold_784 (lv_at hl 7 rfl) ?_
          refine lv_iconst (v := 4) hx hb dL_isTold_786 (by decide) ?_
          refine lv_icmp_ne (tgt := 884) hx hb dL_isTold_787 (by decide) (fun c_5 => ?_) (fun c_5 => ?_)
          · refine lv_iload hx hb dL_isTold_884 (lv_at hl 7 rfl) ?_
            refine lv_iconst (v := 5) hx hb dL_isTold_886 (by decide) ?_
            refine lv_icmp_ne (tgt := 956) hx hb dL_isTold_887 (by decide) (fun c_6 => ?_) (fun c_6 => ?_)
            · exact absurd (show (5 : Int32) = (5 : Int32) from by decide) c_6
            · refine lv_iload hx hb dL_isTold_890 (lv_at hl 8 rfl) ?_
              refine lv_iconst (v := 5) hx hb dL_isTold_892 (by decide) ?_
              refine zvRem hx hb dL_isTold_893 (by decide) ?_
              refine lv_istore (lv' := [(10, .int (zRem p1 (5 : Int32))), (0, .ref mh), (1, .ref ak), (2, .ref ah), (3, .ref ac), (4, .ref ae), (5, .ref aq), (6, .ref ag), (7, .int (5 : Int32)), (8, .int p1), (9, .int p2)]) hx hb dL_isTold_894 hl (by decide) rfl (fun ls hl => ?_)
              refine lv_aload hx hb dL_isTold_896 (lv_at hl 7 rfl) ?_
              refine lv_iconst (v := 2) hx hb dL_isTold_898 (by decide) ?_
              refine lv_dup2_11 hx hb dL_isTold_899 rfl rfl ?_
              refine va_iald hx hb hK hP 2 0 rfl rfl (i := (2 : Int32)) (by unfold vp_in; decide) dL_isTold_900 ?_
              refine lv_iload hx hb dL_isTold_901 (lv_at hl 0 rfl) ?_
              refine lv_iconst (v := 4) hx hb dL_isTold_903 (by decide) ?_
              refine zNm (fun R9 Q9 hR9 hQ9 => ?_)
              have J915 : ∀ (v915_0 : Int32), v915_0 = (jL_isTold_5_915_0 ni li mi mv nx al nc nl on il ba vg p1 p2) → ∀ (ls : Array Slot), lv_has ls 17 [(10, .int (zRem p1 (5 : Int32))), (0, .ref mh), (1, .ref ak), (2, .ref ah), (3, .ref ac), (4, .ref ae), (5, .ref aq), (6, .ref ag), (7, .int (5 : Int32)), (8, .int p1), (9, .int p2)] → W p l e R9 s m ([.ref mh, .ref ak, .ref ah, .ref ac, .ref ae, .ref aq, .ref ag, .int (5 : Int32), .int p1, .int p2] : List Value).toArray below meth c s.heap [] 0 0 Q9 (F0 m 915 ls [.int v915_0, .int (vg ((2 : Int32)).toNatClampNeg), .int (2 : Int32), .ref ag]) := by
                subst hR9; subst hQ9
                intro v915_0 hvv915_0
                rw [hvv915_0]; clear hvv915_0 v915_0
                intro ls hl
                refine lv_ixor hx hb dL_isTold_915 ?_
                refine va_iast hx hb hK hP hD hS 2 0 rfl rfl (i := (2 : Int32)) (x := ((vg ((2 : Int32)).toNatClampNeg) ^^^ (jL_isTold_5_915_0 ni li mi mv nx al nc nl on il ba vg p1 p2))) (by unfold vp_in; decide) dL_isTold_916 (fun H locs hP hD hS => ?_)
                have hP : va_P (dC, dI) vwCl [(mh, .inr (7, [.ref ca, .ref la, .ref sg, .ref pl, .ref rw, .ref tw, .ref ga, .ref pa, .int ni, .int li, .int mi, .int mv, .int nx, .int al, .int nc, .int nl])), (sg, .inr (5, [.ref lg, .int on, .int il, .int ba])), (ag, .inl (cI, 13, .inl (upd vg ((2 : Int32)).toNatClampNeg ((vg ((2 : Int32)).toNatClampNeg) ^^^ (jL_isTold_5_915_0 ni li mi mv nx al nc nl on il ba vg p1 p2)))))] H := hP
                have hD : va_D A [(mh, .inr (7, [.ref ca, .ref la, .ref sg, .ref pl, .ref rw, .ref tw, .ref ga, .ref pa, .int ni, .int li, .int mi, .int mv, .int nx, .int al, .int nc, .int nl])), (sg, .inr (5, [.ref lg, .int on, .int il, .int ba])), (ag, .inl (cI, 13, .inl (upd vg ((2 : Int32)).toNatClampNeg ((vg ((2 : Int32)).toNatClampNeg) ^^^ (jL_isTold_5_915_0 ni li mi mv nx al nc nl on il ba vg p1 p2)))))] := hD
                refine lv_aload_n hx hb dL_isTold_917 rfl (lv_at hl 1 rfl) ?_
                refine lv_iconst (v := 5) hx hb dL_isTold_918 (by decide) ?_
                refine lv_iload hx hb dL_isTold_919 (lv_at hl 0 rfl) ?_
                refine lv_iconst (v := 0) hx hb dL_isTold_921 (by decide) ?_
                refine lv_iconst (v := 0) hx hb dL_isTold_922 (by decide) ?_
                refine lv_iconst (v := 0) hx hb dL_isTold_923 (by decide) ?_
                refine zkI (wr := [(ag, .inl (cI, 13, .inl (upd vg ((2 : Int32)).toNatClampNeg ((vg ((2 : Int32)).toNatClampNeg) ^^^ (jL_isTold_5_915_0 ni li mi mv nx al nc nl on il ba vg p1 p2)))))]) (r0 := (rL_does_5 ni li mi mv nx al nc nl on il ba (zRem p1 (5 : Int32)) (0 : Int32) (0 : Int32) (0 : Int32))) (u0 := ((oL_does_5_ba ni li mi mv nx al nc nl on il ba (zRem p1 (5 : Int32)) (0 : Int32) (0 : Int32) (0 : Int32)))) (vx_runSW (As := [.ref mh, .int (5 : Int32), .int (zRem p1 (5 : Int32)), .int (0 : Int32), .int (0 : Int32), .int (0 : Int32)]) (rest := []) ⟨hx, hb, hml, hown, hts⟩ (c_L_does_5 l hfl dC dI cI cJ mh sg ca la pl rw tw ga pa lg H.size ni li mi mv nx al nc nl on il ba (zRem p1 (5 : Int32)) (0 : Int32) (0 : Int32) (0 : Int32) ) (vx_cwSW 6 hts gL_isTold_L_does rfl rfl rfl (by decide +kernel) ⟨Nat.le_of_ble_eq_true rfl, Nat.le_of_ble_eq_true rfl⟩) (zpS hK hP hD hS hA hG [0, 1] (by decide) rfl) rfl rfl hl.1 rfl (lv_room (Nat.le_of_ble_eq_true rfl)) dL_isTold_924 ⟨Nat.le_of_ble_eq_true rfl, Nat.le_of_ble_eq_true rfl⟩) (fun r u h => ⟨h.1, h.2⟩) hP hD hS hA [0, 1] [2] rfl rfl (by decide) (by decide) (fun H locs hP hD hS => ?_)
                try dsimp only [List.cons_append, List.nil_append] at hP hD
                have hP : va_P (dC, dI) vwCl [(ag, .inl (cI, 13, .inl (upd vg ((2 : Int32)).toNatClampNeg ((vg ((2 : Int32)).toNatClampNeg) ^^^ (jL_isTold_5_915_0 ni li mi mv nx al nc nl on il ba vg p1 p2))))), (mh, .inr (7, [.ref ca, .ref la, .ref sg, .ref pl, .ref rw, .ref tw, .ref ga, .ref pa, .int ni, .int li, .int mi, .int mv, .int nx, .int al, .int nc, .int nl])), (sg, .inr (5, [.ref lg, .int on, .int il, .int (oL_does_5_ba ni li mi mv nx al nc nl on il ba (zRem p1 (5 : Int32)) (0 : Int32) (0 : Int32) (0 : Int32))]))] H := hP
                have hD : va_D A [(ag, .inl (cI, 13, .inl (upd vg ((2 : Int32)).toNatClampNeg ((vg ((2 : Int32)).toNatClampNeg) ^^^ (jL_isTold_5_915_0 ni li mi mv nx al nc nl on il ba vg p1 p2))))), (mh, .inr (7, [.ref ca, .ref la, .ref sg, .ref pl, .ref rw, .ref tw, .ref ga, .ref pa, .int ni, .int li, .int mi, .int mv, .int nx, .int al, .int nc, .int nl])), (sg, .inr (5, [.ref lg, .int on, .int il, .int (oL_does_5_ba ni li mi mv nx al nc nl on il ba (zRem p1 (5 : Int32)) (0 : Int32) (0 : Int32) (0 : Int32))]))] := hD
                refine W.widen (k := 1) (n := 6) (by decide) (by decide) ?_
                refine lv_iload hx hb dL_isTold_927 (lv_at hl 0 rfl) ?_
                refine lv_iconst (v := 4) hx hb dL_isTold_929 (by decide) ?_
                refine zNm (fun R9 Q9 hR9 hQ9 => ?_)
                have J947 : ∀ (v947_0 : Int32), v947_0 = (jL_isTold_5_947_0 ni li mi mv nx al nc nl on il ba vg p1 p2) → ∀ (H : Heap) (locs : List Loc) (ls : Array Slot), va_P (dC, dI) vwCl [(ag, .inl (cI, 13, .inl (upd vg ((2 : Int32)).toNatClampNeg ((vg ((2 : Int32)).toNatClampNeg) ^^^ (jL_isTold_5_915_0 ni li mi mv nx al nc nl on il ba vg p1 p2))))), (mh, .inr (7, [.ref ca, .ref la, .ref sg, .ref pl, .ref rw, .ref tw, .ref ga, .ref pa, .int ni, .int li, .int mi, .int mv, .int nx, .int al, .int nc, .int nl])), (sg, .inr (5, [.ref lg, .int on, .int il, .int (oL_does_5_ba ni li mi mv nx al nc nl on il ba (zRem p1 (5 : Int32)) (0 : Int32) (0 : Int32) (0 : Int32))]))] H → va_D A [(ag, .inl (cI, 13, .inl (upd vg ((2 : Int32)).toNatClampNeg ((vg ((2 : Int32)).toNatClampNeg) ^^^ (jL_isTold_5_915_0 ni li mi mv nx al nc nl on il ba vg p1 p2))))), (mh, .inr (7, [.ref ca, .ref la, .ref sg, .ref pl, .ref rw, .ref tw, .ref ga, .ref pa, .int ni, .int li, .int mi, .int mv, .int nx, .int al, .int nc, .int nl])), (sg, .inr (5, [.ref lg, .int on, .int il, .int (oL_does_5_ba ni li mi mv nx al nc nl on il ba (zRem p1 (5 : Int32)) (0 : Int32) (0 : Int32) (0 : Int32))]))] → va_S A s.heap H locs → lv_has ls 17 [(10, .int (zRem p1 (5 : Int32))), (0, .ref mh), (1, .ref ak), (2, .ref ah), (3, .ref ac), (4, .ref ae), (5, .ref aq), (6, .ref ag), (7, .int (5 : Int32)), (8, .int p1), (9, .int p2)] → W p l e R9 s m ([.ref mh, .ref ak, .ref ah, .ref ac, .ref ae, .ref aq, .ref ag, .int (5 : Int32), .int p1, .int p2] : List Value).toArray below meth c H locs 1 6 Q9 (F0 m 947 ls [.int v947_0, .int (rL_does_5 ni li mi mv nx al nc nl on il ba (zRem p1 (5 : Int32)) (0 : Int32) (0 : Int32) (0 : Int32))]) := by
                  subst hR9; subst hQ9
                  intro v947_0 hvv947_0
                  rw [hvv947_0]; clear hvv947_0 v947_0
                  intro H locs ls hP hD hS hl
                  refine lv_icmp_ne (tgt := 954) hx hb dL_isTold_947 (by decide) (fun c_7 => ?_) (fun c_7 => ?_)
                  · refine lv_iconst (v := 0) hx hb dL_isTold_954 (by decide) ?_
                    refine W.widen (k := 1) (n := 6) (by decide) (by decide) ?_
                    exact W.zret (v := (0 : Int32)) hx hb hr (zNar (Or.inl rfl)) (fun t ht hW => ⟨⟨(0 : Int32), ((oL_does_5_ba ni li mi mv nx al nc nl on il ba (zRem p1 (5 : Int32)) (0 : Int32) (0 : Int32) (0 : Int32)), (upd vg ((2 : Int32)).toNatClampNeg ((vg ((2 : Int32)).toNatClampNeg) ^^^ (jL_isTold_5_915_0 ni li mi mv nx al nc nl on il ba vg p1 p2)))), rfl, ⟨(by unfold rL_isTold_5; rw [if_neg c_7]), (by unfold oL_isTold_5_ba; rfl), (by unfold oL_isTold_5_vg; rfl)⟩, (by (try dsimp only); rw [ht]; exact hP.sub [1, 2, 0] rfl), va_K.moved hW.alike hK, (by (try dsimp only); exact hD.sub [1, 2, 0] (by decide) rfl)⟩, hS.F ht⟩) hS.2.2 dL_isTold_955
                  · refine lv_iconst (v := 1) hx hb dL_isTold_950 (by decide) ?_
                    refine lv_goto (tgt := 955) hx hb dL_isTold_951 (by decide) ?_
                    refine W.widen (k := 1) (n := 6) (by decide) (by decide) ?_
                    exact W.zret (v := (1 : Int32)) hx hb hr (zNar (Or.inr rfl)) (fun t ht hW => ⟨⟨(1 : Int32), ((oL_does_5_ba ni li mi mv nx al nc nl on il ba (zRem p1 (5 : Int32)) (0 : Int32) (0 : Int32) (0 : Int32)), (upd vg ((2 : Int32)).toNatClampNeg ((vg ((2 : Int32)).toNatClampNeg) ^^^ (jL_isTold_5_915_0 ni li mi mv nx al nc nl on il ba vg p1 p2)))), rfl, ⟨(by unfold rL_isTold_5; rw [if_pos c_7]), (by unfold oL_isTold_5_ba; rfl), (by unfold oL_isTold_5_vg; rfl)⟩, (by (try dsimp only); rw [ht]; exact hP.sub [1, 2, 0] rfl), va_K.moved hW.alike hK, (by (try dsimp only); exact hD.sub [1, 2, 0] (by decide) rfl)⟩, hS.F ht⟩) hS.2.2 dL_isTold_955
                subst hR9; subst hQ9
                refine lv_icmp_ne (tgt := 938) hx hb dL_isTold_930 (by decide) (fun c_8 => ?_) (fun c_8 => ?_)
                · refine lv_aload hx hb dL_isTold_938 (lv_at hl 7 rfl) ?_
                  refine lv_iconst (v := 2) hx hb dL_isTold_940 (by decide) ?_
                  refine va_iald hx hb hK hP 0 0 rfl rfl (i := (2 : Int32)) (by unfold vp_in; decide) dL_isTold_941 ?_
                  refine lv_iload hx hb dL_isTold_942 (lv_at hl 0 rfl) ?_
                  refine lv_ishr hx hb dL_isTold_944 ?_
                  refine lv_iconst (v := 1) hx hb dL_isTold_945 (by decide) ?_
                  refine lv_iand hx hb dL_isTold_946 ?_
                  exact J947 ((((upd vg ((2 : Int32)).toNatClampNeg ((vg ((2 : Int32)).toNatClampNeg) ^^^ (jL_isTold_5_915_0 ni li mi mv nx al nc nl on il ba vg p1 p2))) ((2 : Int32)).toNatClampNeg) >>> ((zRem p1 (5 : Int32)) &&& 31)) &&& (1 : Int32)) (by unfold jL_isTold_5_947_0; rw [if_neg c_8]) _ _ _ hP hD hS (lv_sub hl [0, 1, 2, 3, 4, 5, 6, 7, 8, 9, 10] rfl)
                · refine lv_ldc (v := -3000000) hx hb hown (hts _ kL_isTold_5_0) dL_isTold_933 ?_
                  refine lv_goto (tgt := 947) hx hb dL_isTold_935 (by decide) ?_
                  exact J947 (-3000000 : Int32) (by unfold jL_isTold_5_947_0; rw [if_pos c_8]) _ _ _ hP hD hS (lv_sub hl [0, 1, 2, 3, 4, 5, 6, 7, 8, 9, 10] rfl)
              subst hR9; subst hQ9
              refine lv_icmp_ge (tgt := 914) hx hb dL_isTold_904 (by decide) (fun c_9 => ?_) (fun c_9 => ?_)
              · refine lv_iconst (v := 0) hx hb dL_isTold_914 (by decide) ?_
                exact J915 (0 : Int32) (by unfold jL_isTold_5_915_0; rw [if_pos c_9]) _ (lv_sub hl [0, 1, 2, 3, 4, 5, 6, 7, 8, 9, 10] rfl)
              · refine lv_iconst (v := 1) hx hb dL_isTold_907 (by decide) ?_
                refine lv_iload hx hb dL_isTold_908 (lv_at hl 0 rfl) ?_
                refine lv_ishl hx hb dL_isTold_910 ?_
                refine lv_goto (tgt := 915) hx hb dL_isTold_911 (by decide) ?_
                exact J915 ((1 : Int32) <<< ((zRem p1 (5 : Int32)) &&& 31)) (by unfold jL_isTold_5_915_0; rw [if_neg c_9]) _ (lv_sub hl [0, 1, 2, 3, 4, 5, 6, 7, 8, 9, 10] rfl)
          · exact absurd c_5 (by decide)
        · exact absurd c_4 (by decide)
      · exact absurd c_3 (by decide)
    · exact absurd c_2 (by decide)
  · exact absurd c_1 (by decide)
theorem brL_isTold_5 (ni : Int32) (li : Int32) (mi : Int32) (mv : Int32) (nx : Int32) (al : Int32) (nc : Int32) (nl : Int32) (on : Int32) (il : Int32) (ba : Int32) (vg : Nat → Int32) (p1 : Int32) (p2 : Int32) : rL_isTold_5 ni li mi mv nx al nc nl on il ba vg p1 p2 = 0 ∨ rL_isTold_5 ni li mi mv nx al nc nl on il ba vg p1 p2 = 1 := by
  unfold rL_isTold_5
  repeat' split
  all_goals first | exact Or.inl rfl | exact Or.inr rfl
