/-! L_isTold -/
def jL_isTold_7_1238_0 (ni : Int32) (li : Int32) (mi : Int32) (mv : Int32) (nx : Int32) (al : Int32) (nc : Int32) (nl : Int32) (pt : Nat → Int32) (vq : Nat → Int32) (p1 : Int32) (p2 : Int32) : Int32 := (if (101 : Int32) ≤ (zRem p2 (102 : Int32)) then (0 : Int32) else (1 : Int32))
theorem bjL_isTold_7_1238_0 (ni : Int32) (li : Int32) (mi : Int32) (mv : Int32) (nx : Int32) (al : Int32) (nc : Int32) (nl : Int32) (pt : Nat → Int32) (vq : Nat → Int32) (p1 : Int32) (p2 : Int32) : jL_isTold_7_1238_0 ni li mi mv nx al nc nl pt vq p1 p2 = 0 ∨ jL_isTold_7_1238_0 ni li mi mv nx al nc nl pt vq p1 p2 = 1 := by
  unfold jL_isTold_7_1238_0
  repeat' split
  all_goals first | exact Or.inl rfl | exact Or.inr rfl
def jL_isTold_7_1217_0 (ni : Int32) (li : Int32) (mi : Int32) (mv : Int32) (nx : Int32) (al : Int32) (nc : Int32) (nl : Int32) (pt : Nat → Int32) (vq : Nat → Int32) (p1 : Int32) (p2 : Int32) : Int32 := (if (zRem p1 (13 : Int32)) = (12 : Int32) then (6 : Int32) else (zRem p1 (6 : Int32)))
def jL_isTold_7_1279_0 (ni : Int32) (li : Int32) (mi : Int32) (mv : Int32) (nx : Int32) (al : Int32) (nc : Int32) (nl : Int32) (pt : Nat → Int32) (vq : Nat → Int32) (p1 : Int32) (p2 : Int32) : Int32 := (if (6 : Int32) ≤ (jL_isTold_7_1217_0 ni li mi mv nx al nc nl pt vq p1 p2) then (6 : Int32) else (if (jL_isTold_7_1238_0 ni li mi mv nx al nc nl pt vq p1 p2) = 0 then (6 : Int32) else (jL_isTold_7_1217_0 ni li mi mv nx al nc nl pt vq p1 p2)))
def jL_isTold_7_1256_0 (ni : Int32) (li : Int32) (mi : Int32) (mv : Int32) (nx : Int32) (al : Int32) (nc : Int32) (nl : Int32) (pt : Nat → Int32) (vq : Nat → Int32) (p1 : Int32) (p2 : Int32) : Int32 := (if (6 : Int32) ≤ (jL_isTold_7_1217_0 ni li mi mv nx al nc nl pt vq p1 p2) then (0 : Int32) else (vq ((jL_isTold_7_1217_0 ni li mi mv nx al nc nl pt vq p1 p2)).toNatClampNeg))
def jL_isTold_7_1318_0 (ni : Int32) (li : Int32) (mi : Int32) (mv : Int32) (nx : Int32) (al : Int32) (nc : Int32) (nl : Int32) (pt : Nat → Int32) (vq : Nat → Int32) (p1 : Int32) (p2 : Int32) : Int32 := (if (jL_isTold_7_1217_0 ni li mi mv nx al nc nl pt vq p1 p2) = (6 : Int32) then (-3000000 : Int32) else (if (jL_isTold_7_1238_0 ni li mi mv nx al nc nl pt vq p1 p2) = 0 then (-2000000 : Int32) else (jL_isTold_7_1256_0 ni li mi mv nx al nc nl pt vq p1 p2)))
def rL_isTold_7 (ni : Int32) (li : Int32) (mi : Int32) (mv : Int32) (nx : Int32) (al : Int32) (nc : Int32) (nl : Int32) (pt : Nat → Int32) (vq : Nat → Int32) (p1 : Int32) (p2 : Int32) : Int32 := (if (rL_does_8 ni li mi mv nx al nc nl pt (jL_isTold_7_1217_0 ni li mi mv nx al nc nl pt vq p1 p2) (zRem p2 (102 : Int32)) (0 : Int32) (0 : Int32)) = (jL_isTold_7_1318_0 ni li mi mv nx al nc nl pt vq p1 p2) then (1 : Int32) else (0 : Int32))
def oL_isTold_7_pt (ni : Int32) (li : Int32) (mi : Int32) (mv : Int32) (nx : Int32) (al : Int32) (nc : Int32) (nl : Int32) (pt : Nat → Int32) (vq : Nat → Int32) (p1 : Int32) (p2 : Int32) : Nat → Int32 := (oL_does_8_pt ni li mi mv nx al nc nl pt (jL_isTold_7_1217_0 ni li mi mv nx al nc nl pt vq p1 p2) (zRem p2 (102 : Int32)) (0 : Int32) (0 : Int32))
def oL_isTold_7_vq (ni : Int32) (li : Int32) (mi : Int32) (mv : Int32) (nx : Int32) (al : Int32) (nc : Int32) (nl : Int32) (pt : Nat → Int32) (vq : Nat → Int32) (p1 : Int32) (p2 : Int32) : Nat → Int32 := (upd vq ((jL_isTold_7_1279_0 ni li mi mv nx al nc nl pt vq p1 p2)).toNatClampNeg (zRem p2 (102 : Int32)))
set_option maxRecDepth 20000 in
theorem kL_isTold_7_0 : Cond.constant RL 87 (-2000000) ∈ wsL_isTold := by decide +kernel
set_option maxRecDepth 20000 in
theorem kL_isTold_7_1 : Cond.constant RL 84 (-3000000) ∈ wsL_isTold := by decide +kernel
set_option maxHeartbeats 5720000 in
set_option maxRecDepth 100000 in
theorem c_L_isTold_7 (l : Launch) (hfl : l.stackTraces = false) (dC : Nat → ClassId) (dI : Nat → Nat → Nat) (cI cJ : ClassId) (mh pa aq ak ah ac ae ag ca la sg pl rw tw ga : Nat) (sz : Nat) (ni : Int32) (li : Int32) (mi : Int32) (mv : Int32) (nx : Int32) (al : Int32) (nc : Int32) (nl : Int32) (pt : Nat → Int32) (vq : Nat → Int32) (p1 : Int32) (p2 : Int32) (hi1251 : ¬ (7 : Int32) = 0 → ¬ (7 : Int32) = (1 : Int32) → ¬ (7 : Int32) = (2 : Int32) → ¬ (7 : Int32) = (3 : Int32) → ¬ (7 : Int32) = (4 : Int32) → ¬ (7 : Int32) = (5 : Int32) → ¬ (7 : Int32) = (6 : Int32) → ¬ (6 : Int32) ≤ (jL_isTold_7_1217_0 ni li mi mv nx al nc nl pt vq p1 p2) → vp_in (jL_isTold_7_1217_0 ni li mi mv nx al nc nl pt vq p1 p2) 7) (hi1281 : ¬ (7 : Int32) = 0 → ¬ (7 : Int32) = (1 : Int32) → ¬ (7 : Int32) = (2 : Int32) → ¬ (7 : Int32) = (3 : Int32) → ¬ (7 : Int32) = (4 : Int32) → ¬ (7 : Int32) = (5 : Int32) → ¬ (7 : Int32) = (6 : Int32) → vp_in (jL_isTold_7_1279_0 ni li mi mv nx al nc nl pt vq p1 p2) 7) : Met l yL_isTold wsL_isTold ({ frames := 9, cells := 1, slots := 6, locals := 153 }) (va_Pc [.ref mh, .ref ak, .ref ah, .ref ac, .ref ae, .ref aq, .ref ag, .int (7 : Int32), .int p1, .int p2] (zI (dC, dI) [(cI, .int), (cJ, .long)] [(mh, .inr (7, [.ref ca, .ref la, .ref sg, .ref pl, .ref rw, .ref tw, .ref ga, .ref pa, .int ni, .int li, .int mi, .int mv, .int nx, .int al, .int nc, .int nl])), (pa, .inl (cI, 6, .inl pt)), (aq, .inl (cI, 7, .inl vq))] sz)) (va_Qi (fun (r : Int32) (u : (Nat → Int32) × (Nat → Int32)) => r = rL_isTold_7 ni li mi mv nx al nc nl pt vq p1 p2 ∧ u.1 = oL_isTold_7_pt ni li mi mv nx al nc nl pt vq p1 p2 ∧ u.2 = oL_isTold_7_vq ni li mi mv nx al nc nl pt vq p1 p2) (fun u => zO (dC, dI) [(cI, .int), (cJ, .long)] [(mh, .inr (7, [.ref ca, .ref la, .ref sg, .ref pl, .ref rw, .ref tw, .ref ga, .ref pa, .int ni, .int li, .int mi, .int mv, .int nx, .int al, .int nc, .int nl])), (pa, .inl (cI, 6, .inl u.1)), (aq, .inl (cI, 7, .inl u.2))] (va_A [(mh, .inr (7, [.ref ca, .ref la, .ref sg, .ref pl, .ref rw, .ref tw, .ref ga, .ref pa, .int ni, .int li, .int mi, .int mv, .int nx, .int al, .int nc, .int nl])), (pa, .inl (cI, 6, .inl pt)), (aq, .inl (cI, 7, .inl vq))] sz)) (va_A [(mh, .inr (7, [.ref ca, .ref la, .ref sg, .ref pl, .ref rw, .ref tw, .ref ga, .ref pa, .int ni, .int li, .int mi, .int mv, .int nx, .int al, .int nc, .int nl])), (pa, .inl (cI, 6, .inl pt)), (aq, .inl (cI, 7, .inl vq))] sz)) 1 6 (va_A [(mh, .inr (7, [.ref ca, .ref la, .ref sg, .ref pl, .ref rw, .ref tw, .ref ga, .ref pa, .int ni, .int li, .int mi, .int mv, .int nx, .int al, .int nc, .int nl])), (pa, .inl (cI, 6, .inl pt)), (aq, .inl (cI, 7, .inl vq))] sz) := by
  refine Met.ofW (cc := cL_isTold) (maxL := 17) (ret := (some .boolean)) (by decide) rfl ?_
  intro p e s m args below meth c s₁ B hml hv
  obtain ⟨rfl, hsz, hP, hK, hD0, hG⟩ := hv
  have hx := B.exec
  have hb := B.bytes
  have hr := B.returns
  have hts := atoms_spec (ws := wsL_isTold) B.pre
  have hown : s.vm.findClass RL = some m.cls := findClass_of_methodNamed B.named
  have hlocks := B.notSynchronized
  subst hsz
  have hD := hD0.self (sz := s.heap.size)
  generalize hAe : va_A [(mh, .inr (7, [.ref ca, .ref la, .ref sg, .ref pl, .ref rw, .ref tw, .ref ga, .ref pa, .int ni, .int li, .int mi, .int mv, .int nx, .int al, .int nc, .int nl])), (pa, .inl (cI, 6, .inl pt)), (aq, .inl (cI, 7, .inl vq))] s.heap.size = A at hD hG ⊢
  have hA : ∀ q : Nat, s.heap.size ≤ q → A q := fun q h => by rw [← hAe]; exact Or.inr h
  have hS : va_S A s.heap s.heap [] := va_S.rf
  have hP : va_P (dC, dI) vwCl [(mh, .inr (7, [.ref ca, .ref la, .ref sg, .ref pl, .ref rw, .ref tw, .ref ga, .ref pa, .int ni, .int li, .int mi, .int mv, .int nx, .int al, .int nc, .int nl])), (pa, .inl (cI, 6, .inl pt)), (aq, .inl (cI, 7, .inl vq))] s.heap := hP
  have hl := lv_entry ([.ref mh, .ref ak, .ref ah, .ref ac, .ref ae, .ref aq, .ref ag, .int (7 : Int32), .int p1, .int p2]) (n := 17) (Nat.le_of_ble_eq_true rfl)
  rw [lg_entry_eq]
  generalize (lg_sl ([.ref mh, .ref ak, .ref ah, .ref ac, .ref ae, .ref aq, .ref ag, .int (7 : Int32), .int p1, .int p2]) ++ List.replicate (17 - (lg_sl ([.ref mh, .ref ak, .ref ah, .ref ac, .ref ae, .ref aq, .ref ag, .int (7 : Int32), .int p1, .int p2])).length) Slot.unset).toArray = ls at hl ⊢
  have hl : lv_has ls 17 [(0, .ref mh), (1, .ref ak), (2, .ref ah), (3, .ref ac), (4, .ref ae), (5, .ref aq), (6, .ref ag), (7, .int (7 : Int32)), (8, .int p1), (9, .int p2)] := hl
  refine lv_iload hx hb dL_isTold_0 (lv_at hl 7 rfl) ?_
  refine lv_if_ne (tgt := 207) hx hb dL_isTold_2 (by decide) (fun c_1 => ?_) (fun c_1 => ?_)
  · refine lv_iload hx hb dL_isTold_207 (lv_at hl 7 rfl) ?_
    refine lv_iconst (v := 1) hx hb dL_isTold_209 (by decide) ?_
    refine lv_icmp_ne (tgt := 371) hx hb dL_isTold_210 (by decide) (fun c_2 => ?_) (fun c_2 => ?_)
    · refine lv_iload hx hb dL_isTold_371 (lv_at hl 7 rfl) ?_
      refine lv_iconst (v := 2) hx hb dL_isTold_373 (by decide) ?_
      refine lv_icmp_ne (tgt := 628) hx hb dL_isTold_374 (by decide) (fun c_3 => ?_) (fun c_3 => ?_)
      · refine lv_iload hx hb dL_isTold_628 (lv_at hl 7 rfl) ?_
        refine lv_iconst (v := 3) hx hb dL_isTold_630 (by decide) ?_
        refine lv_icmp_ne (tgt := 784) hx hb dL_isTold_631 (by decide) (fun c_4 => ?_) (fun c_4 => ?_)
        · refine lv_iload hx hb dL_isTold_784 (lv_at hl 7 rfl) ?_
          refine lv_iconst (v := 4) hx hb dL_isTold_786 (by decide) ?_
          refine lv_icmp_ne (tgt := 884) hx hb dL_isTold_787 (by decide) (fun c_5 => ?_) (fun c_5 => ?_)
          · refine lv_iload hx hb dL_isTold_884 (lv_at hl 7 rfl) ?_
            refine lv_iconst (v := 5) hx hb dL_isTold_886 (by decide) ?_
            refine lv_icmp_ne (tgt := 956) hx hb dL_isTold_887 (by decide) (fun c_6 => ?_) (fun c_6 => ?_)
            · refine lv_iload hx hb dL_isTold_956 (lv_at hl 7 rfl) ?_
              refine lv_bipush (v := 6) hx hb dL_isTold_958 (by decide) ?_
              refine lv_icmp_ne (tgt := 1197) hx hb dL_isTold_960 (by decide) (fun c_7 => ?_) (fun c_7 => ?_)
              · refine lv_iload hx hb dL_isTold_1197 (lv_at hl 8 rfl) ?_
                refine lv_bipush (v := 13) hx hb dL_isTold_1199 (by decide) ?_
                refine zvRem hx hb dL_isTold_1201 (by decide) ?_
                refine lv_bipush (v := 12) hx hb dL_isTold_1202 (by decide) ?_
                refine zNm (fun R9 Q9 hR9 hQ9 => ?_)
                have J1217 : ∀ (v1217_0 : Int32), v1217_0 = (jL_isTold_7_1217_0 ni li mi mv nx al nc nl pt vq p1 p2) → ∀ (ls : Array Slot), lv_has ls 17 [(0, .ref mh), (1, .ref ak), (2, .ref ah), (3, .ref ac), (4, .ref ae), (5, .ref aq), (6, .ref ag), (7, .int (7 : Int32)), (8, .int p1), (9, .int p2)] → W p l e R9 s m ([.ref mh, .ref ak, .ref ah, .ref ac, .ref ae, .ref aq, .ref ag, .int (7 : Int32), .int p1, .int p2] : List Value).toArray below meth c s.heap [] 0 0 Q9 (F0 m 1217 ls [.int v1217_0]) := by
                  subst hR9; subst hQ9
                  intro v1217_0 hvv1217_0
                  rw [hvv1217_0]; clear hvv1217_0 v1217_0
                  intro ls hl
                  refine lv_istore (lv' := [(10, .int (jL_isTold_7_1217_0 ni li mi mv nx al nc nl pt vq p1 p2)), (0, .ref mh), (1, .ref ak), (2, .ref ah), (3, .ref ac), (4, .ref ae), (5, .ref aq), (6, .ref ag), (7, .int (7 : Int32)), (8, .int p1), (9, .int p2)]) hx hb dL_isTold_1217 hl (by decide) rfl (fun ls hl => ?_)
                  refine lv_iload hx hb dL_isTold_1219 (lv_at hl 10 rfl) ?_
                  refine lv_bipush (v := 102) hx hb dL_isTold_1221 (by decide) ?_
                  refine zvRem hx hb dL_isTold_1223 (by decide) ?_
                  refine lv_istore (lv' := [(11, .int (zRem p2 (102 : Int32))), (10, .int (jL_isTold_7_1217_0 ni li mi mv nx al nc nl pt vq p1 p2)), (0, .ref mh), (1, .ref ak), (2, .ref ah), (3, .ref ac), (4, .ref ae), (5, .ref aq), (6, .ref ag), (7, .int (7 : Int32)), (8, .int p1), (9, .int p2)]) hx hb dL_isTold_1224 hl (by decide) rfl (fun ls hl => ?_)
                  refine lv_iload hx hb dL_isTold_1226 (lv_at hl 0 rfl) ?_
                  refine lv_bipush (v := 101) hx hb dL_isTold_1228 (by decide) ?_
                  refine zNm (fun R9 Q9 hR9 hQ9 => ?_)
                  have J1238 : ∀ (v1238_0 : Int32), v1238_0 = (jL_isTold_7_1238_0 ni li mi mv nx al nc nl pt vq p1 p2) → ∀ (ls : Array Slot), lv_has ls 17 [(11, .int (zRem p2 (102 : Int32))), (10, .int (jL_isTold_7_1217_0 ni li mi mv nx al nc nl pt vq p1 p2)), (0, .ref mh), (1, .ref ak), (2, .ref ah), (3, .ref ac), (4, .ref ae), (5, .ref aq), (6, .ref ag), (7, .int (7 : Int32)), (8, .int p1), (9, .int p2)] → W p l e R9 s m ([.ref mh, .ref ak, .ref ah, .ref ac, .ref ae, .ref aq, .ref ag, .int (7 : Int32), .int p1, .int p2] : List Value).toArray below meth c s.heap [] 0 0 Q9 (F0 m 1238 ls [.int v1238_0]) := by
                    subst hR9; subst hQ9
                    intro v1238_0 hvv1238_0
                    rw [hvv1238_0]; clear hvv1238_0 v1238_0
                    intro ls hl
                    refine lv_istore (lv' := [(12, .int (jL_isTold_7_1238_0 ni li mi mv nx al nc nl pt vq p1 p2)), (11, .int (zRem p2 (102 : Int32))), (10, .int (jL_isTold_7_1217_0 ni li mi mv nx al nc nl pt vq p1 p2)), (0, .ref mh), (1, .ref ak), (2, .ref ah), (3, .ref ac), (4, .ref ae), (5, .ref aq), (6, .ref ag), (7, .int (7 : Int32)), (8, .int p1), (9, .int p2)]) hx hb dL_isTold_1238 hl (by decide) rfl (fun ls hl => ?_)
                    refine lv_iload hx hb dL_isTold_1240 (lv_at hl 2 rfl) ?_
                    refine lv_bipush (v := 6) hx hb dL_isTold_1242 (by decide) ?_
                    refine zNm (fun R9 Q9 hR9 hQ9 => ?_)
                    have J1256 : ∀ (v1256_0 : Int32), v1256_0 = (jL_isTold_7_1256_0 ni li mi mv nx al nc nl pt vq p1 p2) → ∀ (ls : Array Slot), lv_has ls 17 [(12, .int (jL_isTold_7_1238_0 ni li mi mv nx al nc nl pt vq p1 p2)), (11, .int (zRem p2 (102 : Int32))), (10, .int (jL_isTold_7_1217_0 ni li mi mv nx al nc nl pt vq p1 p2)), (0, .ref mh), (1, .ref ak), (2, .ref ah), (3, .ref ac), (4, .ref ae), (5, .ref aq), (6, .ref ag), (7, .int (7 : Int32)), (8, .int p1), (9, .int p2)] → W p l e R9 s m ([.ref mh, .ref ak, .ref ah, .ref ac, .ref ae, .ref aq, .ref ag, .int (7 : Int32), .int p1, .int p2] : List Value).toArray below meth c s.heap [] 0 0 Q9 (F0 m 1256 ls [.int v1256_0]) := by
                      subst hR9; subst hQ9
                      intro v1256_0 hvv1256_0
                      rw [hvv1256_0]; clear hvv1256_0 v1256_0
                      intro ls hl
                      refine lv_istore (lv' := [(13, .int (jL_isTold_7_1256_0 ni li mi mv nx al nc nl pt vq p1 p2)), (12, .int (jL_isTold_7_1238_0 ni li mi mv nx al nc nl pt vq p1 p2)), (11, .int (zRem p2 (102 : Int32))), (10, .int (jL_isTold_7_1217_0 ni li mi mv nx al nc nl pt vq p1 p2)), (0, .ref mh), (1, .ref ak), (2, .ref ah), (3, .ref ac), (4, .ref ae), (5, .ref aq), (6, .ref ag), (7, .int (7 : Int32)), (8, .int p1), (9, .int p2)]) hx hb dL_isTold_1256 hl (by decide) rfl (fun ls hl => ?_)
                      refine lv_aload hx hb dL_isTold_1258 (lv_at hl 9 rfl) ?_
                      refine lv_iload hx hb dL_isTold_1260 (lv_at hl 3 rfl) ?_
                      refine lv_bipush (v := 6) hx hb dL_isTold_1262 (by decide) ?_
                      refine zNm (fun R9 Q9 hR9 hQ9 => ?_)
                      have J1279 : ∀ (v1279_0 : Int32), v1279_0 = (jL_isTold_7_1279_0 ni li mi mv nx al nc nl pt vq p1 p2) → ∀ (ls : Array Slot), lv_has ls 17 [(13, .int (jL_isTold_7_1256_0 ni li mi mv nx al nc nl pt vq p1 p2)), (12, .int (jL_isTold_7_1238_0 ni li mi mv nx al nc nl pt vq p1 p2)), (11, .int (zRem p2 (102 : Int32))), (10, .int (jL_isTold_7_1217_0 ni li mi mv nx al nc nl pt vq p1 p2)), (0, .ref mh), (1, .ref ak), (2, .ref ah), (3, .ref ac), (4, .ref ae), (5, .ref aq), (6, .ref ag), (7, .int (7 : Int32)), (8, .int p1), (9, .int p2)] → W p l e R9 s m ([.ref mh, .ref ak, .ref ah, .ref ac, .ref ae, .ref aq, .ref ag, .int (7 : Int32), .int p1, .int p2] : List Value).toArray below meth c s.heap [] 0 0 Q9 (F0 m 1279 ls [.int v1279_0, .ref aq]) := by
                        subst hR9; subst hQ9
                        intro v1279_0 hvv1279_0
                        rw [hvv1279_0]; clear hvv1279_0 v1279_0
                        intro ls hl
                        refine lv_iload hx hb dL_isTold_1279 (lv_at hl 2 rfl) ?_
                        refine va_iast hx hb hK hP hD hS 2 0 rfl rfl (i := (jL_isTold_7_1279_0 ni li mi mv nx al nc nl pt vq p1 p2)) (x := (zRem p2 (102 : Int32))) (hi1281 c_1 c_2 c_3 c_4 c_5 c_6 c_7) dL_isTold_1281 (fun H locs hP hD hS => ?_)
                        have hP : va_P (dC, dI) vwCl [(mh, .inr (7, [.ref ca, .ref la, .ref sg, .ref pl, .ref rw, .ref tw, .ref ga, .ref pa, .int ni, .int li, .int mi, .int mv, .int nx, .int al, .int nc, .int nl])), (pa, .inl (cI, 6, .inl pt)), (aq, .inl (cI, 7, .inl (upd vq ((jL_isTold_7_1279_0 ni li mi mv nx al nc nl pt vq p1 p2)).toNatClampNeg (zRem p2 (102 : Int32)))))] H := hP
                        have hD : va_D A [(mh, .inr (7, [.ref ca, .ref la, .ref sg, .ref pl, .ref rw, .ref tw, .ref ga, .ref pa, .int ni, .int li, .int mi, .int mv, .int nx, .int al, .int nc, .int nl])), (pa, .inl (cI, 6, .inl pt)), (aq, .inl (cI, 7, .inl (upd vq ((jL_isTold_7_1279_0 ni li mi mv nx al nc nl pt vq p1 p2)).toNatClampNeg (zRem p2 (102 : Int32)))))] := hD
                        refine lv_aload_n hx hb dL_isTold_1282 rfl (lv_at hl 4 rfl) ?_
                        refine lv_bipush (v := 8) hx hb dL_isTold_1283 (by decide) ?_
                        refine lv_iload hx hb dL_isTold_1285 (lv_at hl 3 rfl) ?_
                        refine lv_iload hx hb dL_isTold_1287 (lv_at hl 2 rfl) ?_
                        refine lv_iconst (v := 0) hx hb dL_isTold_1289 (by decide) ?_
                        refine lv_iconst (v := 0) hx hb dL_isTold_1290 (by decide) ?_
                        refine zkI (wr := [(aq, .inl (cI, 7, .inl (upd vq ((jL_isTold_7_1279_0 ni li mi mv nx al nc nl pt vq p1 p2)).toNatClampNeg (zRem p2 (102 : Int32)))))]) (r0 := (rL_does_8 ni li mi mv nx al nc nl pt (jL_isTold_7_1217_0 ni li mi mv nx al nc nl pt vq p1 p2) (zRem p2 (102 : Int32)) (0 : Int32) (0 : Int32))) (u0 := ((oL_does_8_pt ni li mi mv nx al nc nl pt (jL_isTold_7_1217_0 ni li mi mv nx al nc nl pt vq p1 p2) (zRem p2 (102 : Int32)) (0 : Int32) (0 : Int32)))) (vx_runSW (As := [.ref mh, .int (8 : Int32), .int (jL_isTold_7_1217_0 ni li mi mv nx al nc nl pt vq p1 p2), .int (zRem p2 (102 : Int32)), .int (0 : Int32), .int (0 : Int32)]) (rest := []) ⟨hx, hb, hml, hown, hts⟩ (c_L_does_8 l hfl dC dI cI cJ mh pa ca la sg pl rw tw ga H.size ni li mi mv nx al nc nl pt (jL_isTold_7_1217_0 ni li mi mv nx al nc nl pt vq p1 p2) (zRem p2 (102 : Int32)) (0 : Int32) (0 : Int32) ) (vx_cwSW 6 hts gL_isTold_L_does rfl rfl rfl (by decide +kernel) ⟨Nat.le_of_ble_eq_true rfl, Nat.le_of_ble_eq_true rfl⟩) (zpS hK hP hD hS hA hG [0, 1] (by decide) rfl) rfl rfl hl.1 rfl (lv_room (Nat.le_of_ble_eq_true rfl)) dL_isTold_1291 ⟨Nat.le_of_ble_eq_true rfl, Nat.le_of_ble_eq_true rfl⟩) (fun r u h => ⟨h.1, h.2⟩) hP hD hS hA [0, 1] [2] rfl rfl (by decide) (by decide) (fun H locs hP hD hS => ?_)
                        try dsimp only [List.cons_append, List.nil_append] at hP hD
                        have hP : va_P (dC, dI) vwCl [(aq, .inl (cI, 7, .inl (upd vq ((jL_isTold_7_1279_0 ni li mi mv nx al nc nl pt vq p1 p2)).toNatClampNeg (zRem p2 (102 : Int32))))), (mh, .inr (7, [.ref ca, .ref la, .ref sg, .ref pl, .ref rw, .ref tw, .ref ga, .ref pa, .int ni, .int li, .int mi, .int mv, .int nx, .int al, .int nc, .int nl])), (pa, .inl (cI, 6, .inl (oL_does_8_pt ni li mi mv nx al nc nl pt (jL_isTold_7_1217_0 ni li mi mv nx al nc nl pt vq p1 p2) (zRem p2 (102 : Int32)) (0 : Int32) (0 : Int32))))] H := hP
                        have hD : va_D A [(aq, .inl (cI, 7, .inl (upd vq ((jL_isTold_7_1279_0 ni li mi mv nx al nc nl pt vq p1 p2)).toNatClampNeg (zRem p2 (102 : Int32))))), (mh, .inr (7, [.ref ca, .ref la, .ref sg, .ref pl, .ref rw, .ref tw, .ref ga, .ref pa, .int ni, .int li, .int mi, .int mv, .int nx, .int al, .int nc, .int nl])), (pa, .inl (cI, 6, .inl (oL_does_8_pt ni li mi mv nx al nc nl pt (jL_isTold_7_1217_0 ni li mi mv nx al nc nl pt vq p1 p2) (zRem p2 (102 : Int32)) (0 : Int32) (0 : Int32))))] := hD
                        refine W.widen (k := 1) (n := 6) (by decide) (by decide) ?_
                        refine lv_iload hx hb dL_isTold_1294 (lv_at hl 3 rfl) ?_
                        refine lv_bipush (v := 6) hx hb dL_isTold_1296 (by decide) ?_
                        refine zNm (fun R9 Q9 hR9 hQ9 => ?_)
                        have J1318 : ∀ (v1318_0 : Int32), v1318_0 = (jL_isTold_7_1318_0 ni li mi mv nx al nc nl pt vq p1 p2) → ∀ (H : Heap) (locs : List Loc) (ls : Array Slot), va_P (dC, dI) vwCl [(aq, .inl (cI, 7, .inl (upd vq ((jL_isTold_7_1279_0 ni li mi mv nx al nc nl pt vq p1 p2)).toNatClampNeg (zRem p2 (102 : Int32))))), (mh, .inr (7, [.ref ca, .ref la, .ref sg, .ref pl, .ref rw, .ref tw, .ref ga, .ref pa, .int ni, .int li, .int mi, .int mv, .int nx, .int al, .int nc, .int nl])), (pa, .inl (cI, 6, .inl (oL_does_8_pt ni li mi mv nx al nc nl pt (jL_isTold_7_1217_0 ni li mi mv nx al nc nl pt vq p1 p2) (zRem p2 (102 : Int32)) (0 : Int32) (0 : Int32))))] H → va_D A [(aq, .inl (cI, 7, .inl (upd vq ((jL_isTold_7_1279_0 ni li mi mv nx al nc nl pt vq p1 p2)).toNatClampNeg (zRem p2 (102 : Int32))))), (mh, .inr (7, [.ref ca, .ref la, .ref sg, .ref pl, .ref rw, .ref tw, .ref ga, .ref pa, .int ni, .int li, .int mi, .int mv, .int nx, .int al, .int nc, .int nl])), (pa, .inl (cI, 6, .inl (oL_does_8_pt ni li mi mv nx al nc nl pt (jL_isTold_7_1217_0 ni li mi mv nx al nc nl pt vq p1 p2) (zRem p2 (102 : Int32)) (0 : Int32) (0 : Int32))))] → va_S A s.heap H locs → lv_has ls 17 [(13, .int (jL_isTold_7_1256_0 ni li mi mv nx al nc nl pt vq p1 p2)), (12, .int (jL_isTold_7_1238_0 ni li mi mv nx al nc nl pt vq p1 p2)), (11, .int (zRem p2 (102 : Int32))), (10, .int (jL_isTold_7_1217_0 ni li mi mv nx al nc nl pt vq p1 p2)), (0, .ref mh), (1, .ref ak), (2, .ref ah), (3, .ref ac), (4, .ref ae), (5, .ref aq), (6, .ref ag), (7, .int (7 : Int32)), (8, .int p1), (9, .int p2)] → W p l e R9 s m ([.ref mh, .ref ak, .ref ah, .ref ac, .ref ae, .ref aq, .ref ag, .int (7 : Int32), .int p1, .int p2] : List Value).toArray below meth c H locs 1 6 Q9 (F0 m 1318 ls [.int v1318_0, .int (rL_does_8 ni li mi mv nx al nc nl pt (jL_isTold_7_1217_0 ni li mi mv nx al nc nl pt vq p1 p2) (zRem p2 (102 : Int32)) (0 : Int32) (0 : Int32))]) := by
                          subst hR9; subst hQ9
                          intro v1318_0 hvv1318_0
                          rw [hvv1318_0]; clear hvv1318_0 v1318_0
                          intro H locs ls hP hD hS hl
                          refine lv_icmp_ne (tgt := 1325) hx hb dL_isTold_1318 (by decide) (fun c_8 => ?_) (fun c_8 => ?_)
                          · refine lv_iconst (v := 0) hx hb dL_isTold_1325 (by decide) ?_
                            refine W.widen (k := 1) (n := 6) (by decide) (by decide) ?_
                            exact W.zret (v := (0 : Int32)) hx hb hr (zNar (Or.inl rfl)) (fun t ht hW => ⟨⟨(0 : Int32), ((oL_does_8_pt ni li mi mv nx al nc nl pt (jL_isTold_7_1217_0 ni li mi mv nx al nc nl pt vq p1 p2) (zRem p2 (102 : Int32)) (0 : Int32) (0 : Int32)), (upd vq ((jL_isTold_7_1279_0 ni li mi mv nx al nc nl pt vq p1 p2)).toNatClampNeg (zRem p2 (102 : Int32)))), rfl, ⟨(by unfold rL_isTold_7; rw [if_neg c_8]), (by unfold oL_isTold_7_pt; rfl), (by unfold oL_isTold_7_vq; rfl)⟩, (by (try dsimp only); rw [ht]; exact hP.sub [1, 2, 0] rfl), va_K.moved hW.alike hK, (by (try dsimp only); exact hD.sub [1, 2, 0] (by decide) rfl)⟩, hS.F ht⟩) hS.2.2 dL_isTold_1326
                          · refine lv_iconst (v := 1) hx hb dL_isTold_1321 (by decide) ?_
                            refine lv_goto (tgt := 1326) hx hb dL_isTold_1322 (by decide) ?_
                            refine W.widen (k := 1) (n := 6) (by decide) (by decide) ?_
                            exact W.zret (v := (1 : Int32)) hx hb hr (zNar (Or.inr rfl)) (fun t ht hW => ⟨⟨(1 : Int32), ((oL_does_8_pt ni li mi mv nx al nc nl pt (jL_isTold_7_1217_0 ni li mi mv nx al nc nl pt vq p1 p2) (zRem p2 (102 : Int32)) (0 : Int32) (0 : Int32)), (upd vq ((jL_isTold_7_1279_0 ni li mi mv nx al nc nl pt vq p1 p2)).toNatClampNeg (zRem p2 (102 : Int32)))), rfl, ⟨(by unfold rL_isTold_7; rw [if_pos c_8]), (by unfold oL_isTold_7_pt; rfl), (by unfold oL_isTold_7_vq; rfl)⟩, (by (try dsimp only); rw [ht]; exact hP.sub [1, 2, 0] rfl), va_K.moved hW.alike hK, (by (try dsimp only); exact hD.sub [1, 2, 0] (by decide) rfl)⟩, hS.F ht⟩) hS.2.2 dL_isTold_1326
                        subst hR9; subst hQ9
                        refine lv_icmp_ne (tgt := 1306) hx hb dL_isTold_1298 (by decide) (fun c_9 => ?_) (fun c_9 => ?_)
                        · refine lv_iload hx hb dL_isTold_1306 (lv_at hl 1 rfl) ?_
                          refine lv_if_eq (tgt := 1316) hx hb dL_isTold_1308 (by decide) (fun c_10 => ?_) (fun c_10 => ?_)
                          · refine lv_ldc (v := -2000000) hx hb hown (hts _ kL_isTold_7_0) dL_isTold_1316 ?_
                            exact J1318 (-2000000 : Int32) (by unfold jL_isTold_7_1318_0; rw [if_neg c_9, if_pos c_10]) _ _ _ hP hD hS (lv_sub hl [0, 1, 2, 3, 4, 5, 6, 7, 8, 9, 10, 11, 12, 13] rfl)
                          · refine lv_iload hx hb dL_isTold_1311 (lv_at hl 0 rfl) ?_
                            refine lv_goto (tgt := 1318) hx hb dL_isTold_1313 (by decide) ?_
                            exact J1318 (jL_isTold_7_1256_0 ni li mi mv nx al nc nl pt vq p1 p2) (by unfold jL_isTold_7_1318_0; rw [if_neg c_9, if_neg c_10]) _ _ _ hP hD hS (lv_sub hl [0, 1, 2, 3, 4, 5, 6, 7, 8, 9, 10, 11, 12, 13] rfl)
                        · refine lv_ldc (v := -3000000) hx hb hown (hts _ kL_isTold_7_1) dL_isTold_1301 ?_
                          refine lv_goto (tgt := 1318) hx hb dL_isTold_1303 (by decide) ?_
                          exact J1318 (-3000000 : Int32) (by unfold jL_isTold_7_1318_0; rw [if_pos c_9]) _ _ _ hP hD hS (lv_sub hl [0, 1, 2, 3, 4, 5, 6, 7, 8, 9, 10, 11, 12, 13] rfl)
                      subst hR9; subst hQ9
                      refine lv_icmp_ge (tgt := 1277) hx hb dL_isTold_1264 (by decide) (fun c_11 => ?_) (fun c_11 => ?_)
                      · refine lv_bipush (v := 6) hx hb dL_isTold_1277 (by decide) ?_
                        exact J1279 (6 : Int32) (by unfold jL_isTold_7_1279_0; rw [if_pos c_11]) _ (lv_sub hl [0, 1, 2, 3, 4, 5, 6, 7, 8, 9, 10, 11, 12, 13] rfl)
                      · refine lv_iload hx hb dL_isTold_1267 (lv_at hl 1 rfl) ?_
                        refine lv_if_eq (tgt := 1277) hx hb dL_isTold_1269 (by decide) (fun c_12 => ?_) (fun c_12 => ?_)
                        · refine lv_bipush (v := 6) hx hb dL_isTold_1277 (by decide) ?_
                          exact J1279 (6 : Int32) (by unfold jL_isTold_7_1279_0; rw [if_neg c_11, if_pos c_12]) _ (lv_sub hl [0, 1, 2, 3, 4, 5, 6, 7, 8, 9, 10, 11, 12, 13] rfl)
                        · refine lv_iload hx hb dL_isTold_1272 (lv_at hl 3 rfl) ?_
                          refine lv_goto (tgt := 1279) hx hb dL_isTold_1274 (by decide) ?_
                          exact J1279 (jL_isTold_7_1217_0 ni li mi mv nx al nc nl pt vq p1 p2) (by unfold jL_isTold_7_1279_0; rw [if_neg c_11, if_neg c_12]) _ (lv_sub hl [0, 1, 2, 3, 4, 5, 6, 7, 8, 9, 10, 11, 12, 13] rfl)
                    subst hR9; subst hQ9
                    refine lv_icmp_ge (tgt := 1255) hx hb dL_isTold_1244 (by decide) (fun c_13 => ?_) (fun c_13 => ?_)
                    · refine lv_iconst (v := 0) hx hb dL_isTold_1255 (by decide) ?_
                      exact J1256 (0 : Int32) (by unfold jL_isTold_7_1256_0; rw [if_pos c_13]) _ (lv_sub hl [0, 1, 2, 3, 4, 5, 6, 7, 8, 9, 10, 11, 12] rfl)
                    · refine lv_aload hx hb dL_isTold_1247 (lv_at hl 8 rfl) ?_
                      refine lv_iload hx hb dL_isTold_1249 (lv_at hl 2 rfl) ?_
                      refine va_iald hx hb hK hP 2 0 rfl rfl (i := (jL_isTold_7_1217_0 ni li mi mv nx al nc nl pt vq p1 p2)) (hi1251 c_1 c_2 c_3 c_4 c_5 c_6 c_7 c_13) dL_isTold_1251 ?_
                      refine lv_goto (tgt := 1256) hx hb dL_isTold_1252 (by decide) ?_
                      exact J1256 (vq ((jL_isTold_7_1217_0 ni li mi mv nx al nc nl pt vq p1 p2)).toNatClampNeg) (by unfold jL_isTold_7_1256_0; rw [if_neg c_13]) _ (lv_sub hl [0, 1, 2, 3, 4, 5, 6, 7, 8, 9, 10, 11, 12] rfl)
                  subst hR9; subst hQ9
                  refine lv_icmp_ge (tgt := 1237) hx hb dL_isTold_1230 (by decide) (fun c_14 => ?_) (fun c_14 => ?_)
                  · refine lv_iconst (v := 0) hx hb dL_isTold_1237 (by decide) ?_
                    exact J1238 (0 : Int32) (by unfold jL_isTold_7_1238_0; rw [if_pos c_14]) _ (lv_sub hl [0, 1, 2, 3, 4, 5, 6, 7, 8, 9, 10, 11] rfl)
                  · refine lv_iconst (v := 1) hx hb dL_isTold_1233 (by decide) ?_
                    refine lv_goto (tgt := 1238) hx hb dL_isTold_1234 (by decide) ?_
                    exact J1238 (1 : Int32) (by unfold jL_isTold_7_1238_0; rw [if_neg c_14]) _ (lv_sub hl [0, 1, 2, 3, 4, 5, 6, 7, 8, 9, 10, 11] rfl)
                subst hR9; subst hQ9
                refine lv_icmp_ne (tgt := 1212) hx hb dL_isTold_1204 (by decide) (fun c_15 => ?_) (fun c_15 => ?_)
                · refine lv_iload hx hb dL_isTold_1212 (lv_at hl 8 rfl) ?_
                  refine lv_bipush (v := 6) hx hb dL_isTold_1214 (by decide) ?_
                  refine zvRem hx hb dL_isTold_1216 (by decide) ?_
                  exact J1217 (zRem p1 (6 : Int32)) (by unfold jL_isTold_7_1217_0; rw [if_neg c_15]) _ (lv_sub hl [0, 1, 2, 3, 4, 5, 6, 7, 8, 9] rfl)
                · refine lv_bipush (v := 6) hx hb dL_isTold_1207 (by decide) ?_
                  refine lv_goto (tgt := 1217) hx hb dL_isTold_1209 (by decide) ?_
                  exact J1217 (6 : Int32) (by unfold jL_isTold_7_1217_0; rw [if_pos c_15]) _ (lv_sub hl [0, 1, 2, 3, 4, 5, 6, 7, 8, 9] rfl)
              · exact absurd c_7 (by decide)
            · exact absurd c_6 (by decide)
          · exact absurd c_5 (by decide)
        · exact absurd c_4 (by decide)
      · exact absurd c_3 (by decide)
    · exact absurd c_2 (by decide)
  · exact absurd c_1 (by decide)
theorem brL_isTold_7 (ni : Int32) (li : Int32) (mi : Int32) (mv : Int32) (nx : Int32) (al : Int32) (nc : Int32) (nl : Int32) (pt : Nat → Int32) (vq : Nat → Int32) (p1 : Int32) (p2 : Int32) : rL_isTold_7 ni li mi mv nx al nc nl pt vq p1 p2 = 0 ∨ rL_isTold_7 ni li mi mv nx al nc nl pt vq p1 p2 = 1 := by
  unfold rL_isTold_7
  repeat' split
  all_goals first | exact Or.inl rfl | exact Or.inr rfl
