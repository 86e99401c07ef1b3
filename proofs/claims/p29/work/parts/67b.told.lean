/-! L_isTold -/
def jL_isTold_1_255_0 (ni : Int32) (li : Int32) (mi : Int32) (mv : Int32) (nx : Int32) (al : Int32) (nc : Int32) (nl : Int32) (kb0 : Nat → Int32) (hb0 : Nat → Int32) (vh : Nat → Int32) (vg : Nat → Int32) (p1 : Int32) (p2 : Int32) : Int32 := (if (zRem p2 (15 : Int32)) = (14 : Int32) then (6 : Int32) else ((zRem p2 (7 : Int32)) - (1 : Int32)))
def jL_isTold_1_231_0 (ni : Int32) (li : Int32) (mi : Int32) (mv : Int32) (nx : Int32) (al : Int32) (nc : Int32) (nl : Int32) (kb0 : Nat → Int32) (hb0 : Nat → Int32) (vh : Nat → Int32) (vg : Nat → Int32) (p1 : Int32) (p2 : Int32) : Int32 := (if (zRem p1 (9 : Int32)) = (8 : Int32) then (4 : Int32) else (zRem p1 (4 : Int32)))
def jL_isTold_1_275_0 (ni : Int32) (li : Int32) (mi : Int32) (mv : Int32) (nx : Int32) (al : Int32) (nc : Int32) (nl : Int32) (kb0 : Nat → Int32) (hb0 : Nat → Int32) (vh : Nat → Int32) (vg : Nat → Int32) (p1 : Int32) (p2 : Int32) : Int32 := (if (4 : Int32) ≤ (jL_isTold_1_231_0 ni li mi mv nx al nc nl kb0 hb0 vh vg p1 p2) then (0 : Int32) else (if (6 : Int32) ≤ (jL_isTold_1_255_0 ni li mi mv nx al nc nl kb0 hb0 vh vg p1 p2) then (0 : Int32) else (1 : Int32)))
theorem bjL_isTold_1_275_0 (ni : Int32) (li : Int32) (mi : Int32) (mv : Int32) (nx : Int32) (al : Int32) (nc : Int32) (nl : Int32) (kb0 : Nat → Int32) (hb0 : Nat → Int32) (vh : Nat → Int32) (vg : Nat → Int32) (p1 : Int32) (p2 : Int32) : jL_isTold_1_275_0 ni li mi mv nx al nc nl kb0 hb0 vh vg p1 p2 = 0 ∨ jL_isTold_1_275_0 ni li mi mv nx al nc nl kb0 hb0 vh vg p1 p2 = 1 := by
  unfold jL_isTold_1_275_0
  repeat' split
  all_goals first | exact Or.inl rfl | exact Or.inr rfl
def jL_isTold_1_334_0 (ni : Int32) (li : Int32) (mi : Int32) (mv : Int32) (nx : Int32) (al : Int32) (nc : Int32) (nl : Int32) (kb0 : Nat → Int32) (hb0 : Nat → Int32) (vh : Nat → Int32) (vg : Nat → Int32) (p1 : Int32) (p2 : Int32) : Int32 := (if (jL_isTold_1_275_0 ni li mi mv nx al nc nl kb0 hb0 vh vg p1 p2) = 0 then (8 : Int32) else (if (vg ((4 : Int32)).toNatClampNeg) = 0 then ((4 : Int32) + (jL_isTold_1_231_0 ni li mi mv nx al nc nl kb0 hb0 vh vg p1 p2)) else (8 : Int32)))
def jL_isTold_1_307_0 (ni : Int32) (li : Int32) (mi : Int32) (mv : Int32) (nx : Int32) (al : Int32) (nc : Int32) (nl : Int32) (kb0 : Nat → Int32) (hb0 : Nat → Int32) (vh : Nat → Int32) (vg : Nat → Int32) (p1 : Int32) (p2 : Int32) : Int32 := (if (jL_isTold_1_275_0 ni li mi mv nx al nc nl kb0 hb0 vh vg p1 p2) = 0 then (8 : Int32) else (jL_isTold_1_231_0 ni li mi mv nx al nc nl kb0 hb0 vh vg p1 p2))
def jL_isTold_1_292_0 (ni : Int32) (li : Int32) (mi : Int32) (mv : Int32) (nx : Int32) (al : Int32) (nc : Int32) (nl : Int32) (kb0 : Nat → Int32) (hb0 : Nat → Int32) (vh : Nat → Int32) (vg : Nat → Int32) (p1 : Int32) (p2 : Int32) : Int32 := (if (jL_isTold_1_275_0 ni li mi mv nx al nc nl kb0 hb0 vh vg p1 p2) = 0 then (0 : Int32) else ((vh ((jL_isTold_1_231_0 ni li mi mv nx al nc nl kb0 hb0 vh vg p1 p2)).toNatClampNeg) - (1 : Int32)))
def jL_isTold_1_362_0 (ni : Int32) (li : Int32) (mi : Int32) (mv : Int32) (nx : Int32) (al : Int32) (nc : Int32) (nl : Int32) (kb0 : Nat → Int32) (hb0 : Nat → Int32) (vh : Nat → Int32) (vg : Nat → Int32) (p1 : Int32) (p2 : Int32) : Int32 := (if (jL_isTold_1_275_0 ni li mi mv nx al nc nl kb0 hb0 vh vg p1 p2) = 0 then (-3000000 : Int32) else (jL_isTold_1_292_0 ni li mi mv nx al nc nl kb0 hb0 vh vg p1 p2))
def rL_isTold_1 (ni : Int32) (li : Int32) (mi : Int32) (mv : Int32) (nx : Int32) (al : Int32) (nc : Int32) (nl : Int32) (kb0 : Nat → Int32) (hb0 : Nat → Int32) (vh : Nat → Int32) (vg : Nat → Int32) (p1 : Int32) (p2 : Int32) : Int32 := (if (rL_does_1 ni li mi mv nx al nc nl kb0 hb0 (jL_isTold_1_231_0 ni li mi mv nx al nc nl kb0 hb0 vh vg p1 p2) (jL_isTold_1_255_0 ni li mi mv nx al nc nl kb0 hb0 vh vg p1 p2) (0 : Int32) (0 : Int32)) = (jL_isTold_1_362_0 ni li mi mv nx al nc nl kb0 hb0 vh vg p1 p2) then (1 : Int32) else (0 : Int32))
def oL_isTold_1_hb0 (ni : Int32) (li : Int32) (mi : Int32) (mv : Int32) (nx : Int32) (al : Int32) (nc : Int32) (nl : Int32) (kb0 : Nat → Int32) (hb0 : Nat → Int32) (vh : Nat → Int32) (vg : Nat → Int32) (p1 : Int32) (p2 : Int32) : Nat → Int32 := (oL_does_1_hb0 ni li mi mv nx al nc nl kb0 hb0 (jL_isTold_1_231_0 ni li mi mv nx al nc nl kb0 hb0 vh vg p1 p2) (jL_isTold_1_255_0 ni li mi mv nx al nc nl kb0 hb0 vh vg p1 p2) (0 : Int32) (0 : Int32))
def oL_isTold_1_vh (ni : Int32) (li : Int32) (mi : Int32) (mv : Int32) (nx : Int32) (al : Int32) (nc : Int32) (nl : Int32) (kb0 : Nat → Int32) (hb0 : Nat → Int32) (vh : Nat → Int32) (vg : Nat → Int32) (p1 : Int32) (p2 : Int32) : Nat → Int32 := (upd (upd vh ((jL_isTold_1_307_0 ni li mi mv nx al nc nl kb0 hb0 vh vg p1 p2)).toNatClampNeg ((jL_isTold_1_255_0 ni li mi mv nx al nc nl kb0 hb0 vh vg p1 p2) + (1 : Int32))) ((jL_isTold_1_334_0 ni li mi mv nx al nc nl kb0 hb0 vh vg p1 p2)).toNatClampNeg ((jL_isTold_1_255_0 ni li mi mv nx al nc nl kb0 hb0 vh vg p1 p2) + (1 : Int32)))
set_option maxRecDepth 20000 in
theorem kL_isTold_1_0 : Cond.constant RL 84 (-3000000) ∈ wsL_isTold := by decide +kernel
set_option maxHeartbeats 6380000 in
set_option maxRecDepth 100000 in
theorem c_L_isTold_1 (l : Launch) (hfl : l.stackTraces = false) (dC : Nat → ClassId) (dI : Nat → Nat → Nat) (cI cJ : ClassId) (mh la ka hh ah ag ak ac ae aq ca sg pl rw tw ga pa : Nat) (sz : Nat) (ni : Int32) (li : Int32) (mi : Int32) (mv : Int32) (nx : Int32) (al : Int32) (nc : Int32) (nl : Int32) (kb0 : Nat → Int32) (hb0 : Nat → Int32) (vh : Nat → Int32) (vg : Nat → Int32) (p1 : Int32) (p2 : Int32) (hi285 : ¬ (1 : Int32) = 0 → (1 : Int32) = (1 : Int32) → ¬ (jL_isTold_1_275_0 ni li mi mv nx al nc nl kb0 hb0 vh vg p1 p2) = 0 → vp_in (jL_isTold_1_231_0 ni li mi mv nx al nc nl kb0 hb0 vh vg p1 p2) 9) (hi311 : ¬ (1 : Int32) = 0 → (1 : Int32) = (1 : Int32) → vp_in (jL_isTold_1_307_0 ni li mi mv nx al nc nl kb0 hb0 vh vg p1 p2) 9) (hi338 : ¬ (1 : Int32) = 0 → (1 : Int32) = (1 : Int32) → vp_in (jL_isTold_1_334_0 ni li mi mv nx al nc nl kb0 hb0 vh vg p1 p2) 9) : Met l yL_isTold wsL_isTold ({ frames := 9, cells := 1, slots := 6, locals := 151 }) (va_Pc [.ref mh, .ref ak, .ref ah, .ref ac, .ref ae, .ref aq, .ref ag, .int (1 : Int32), .int p1, .int p2] (zI (dC, dI) [(cI, .int), (cJ, .long)] [(mh, .inr (7, [.ref ca, .ref la, .ref sg, .ref pl, .ref rw, .ref tw, .ref ga, .ref pa, .int ni, .int li, .int mi, .int mv, .int nx, .int al, .int nc, .int nl])), (la, .inr (2, [.ref ka, .ref hh])), (ka, .inl (cI, 4, .inl kb0)), (hh, .inl (cI, 4, .inl hb0)), (ah, .inl (cI, 9, .inl vh)), (ag, .inl (cI, 13, .inl vg))] sz)) (va_Qi (fun (r : Int32) (u : (Nat → Int32) × (Nat → Int32)) => r = rL_isTold_1 ni li mi mv nx al nc nl kb0 hb0 vh vg p1 p2 ∧ u.1 = oL_isTold_1_hb0 ni li mi mv nx al nc nl kb0 hb0 vh vg p1 p2 ∧ u.2 = oL_isTold_1_vh ni li mi mv nx al nc nl kb0 hb0 vh vg p1 p2) (fun u => zO (dC, dI) [(cI, .int), (cJ, .long)] [(mh, .inr (7, [.ref ca, .ref la, .ref sg, .ref pl, .ref rw, .ref tw, .ref ga, .ref pa, .int ni, .int li, .int mi, .int mv, .int nx, .int al, .int nc, .int nl])), (la, .inr (2, [.ref ka, .ref hh])), (ka, .inl (cI, 4, .inl kb0)), (hh, .inl (cI, 4, .inl u.1)), (ah, .inl (cI, 9, .inl u.2)), (ag, .inl (cI, 13, .inl vg))] (va_A [(mh, .inr (7, [.ref ca, .ref la, .ref sg, .ref pl, .ref rw, .ref tw, .ref ga, .ref pa, .int ni, .int li, .int mi, .int mv, .int nx, .int al, .int nc, .int nl])), (la, .inr (2, [.ref ka, .ref hh])), (ka, .inl (cI, 4, .inl kb0)), (hh, .inl (cI, 4, .inl hb0)), (ah, .inl (cI, 9, .inl vh)), (ag, .inl (cI, 13, .inl vg))] sz)) (va_A [(mh, .inr (7, [.ref ca, .ref la, .ref sg, .ref pl, .ref rw, .ref tw, .ref ga, .ref pa, .int ni, .int li, .int mi, .int mv, .int nx, .int al, .int nc, .int nl])), (la, .inr (2, [.ref ka, .ref hh])), (ka, .inl (cI, 4, .inl kb0)), (hh, .inl (cI, 4, .inl hb0)), (ah, .inl (cI, 9, .inl vh)), (ag, .inl (cI, 13, .inl vg))] sz)) 1 6 (va_A [(mh, .inr (7, [.ref ca, .ref la, .ref sg, .ref pl, .ref rw, .ref tw, .ref ga, .ref pa, .int ni, .int li, .int mi, .int mv, .int nx, .int al, .int nc, .int nl])), (la, .inr (2, [.ref ka, .ref hh])), (ka, .inl (cI, 4, .inl kb0)), (hh, .inl (cI, 4, .inl hb0)), (ah, .inl (cI, 9, .inl vh)), (ag, .inl (cI, 13, .inl vg))] sz) := by
  refine Met.ofW (cc := cL_isTold) (maxL := 17) (ret := (some .boolean)) (by decide) rfl ?_
  intro p e s m args below meth c s₁ B hml hv
  obtain ⟨rfl, hsz, hP, hK, hD0, hG⟩ := hv
  have hx := B.exec
  have hb := B.bytes
  have hr := B.returns
  have hts := atoms_spec (ws := wsL_isTold) B.pre
  have hown : s.vm.findClass RL = some m.cls := findClass_of_methodNamed B.named
  have hlocks := B.notSynchronized
  subst hsz
  have hD := hD0.self (sz := s.heap.size)
  generalize hAe : va_A [(mh, .inr (7, [.ref ca, .ref la, .ref sg, .ref pl, .ref rw, .ref tw, .ref ga, .ref pa, .int ni, .int li, .int mi, .int mv, .int nx, .int al, .int nc, .int nl])), (la, .inr (2, [.ref ka, .ref hh])), (ka, .inl (cI, 4, .inl kb0)), (hh, .inl (cI, 4, .inl hb0)), (ah, .inl (cI, 9, .inl vh)), (ag, .inl (cI, 13, .inl vg))] s.heap.size = A at hD hG ⊢
  have hA : ∀ q : Nat, s.heap.size ≤ q → A q := fun q h => by rw [← hAe]; exact Or.inr h
  have hS : va_S A s.heap s.heap [] := va_S.rf
  have hP : va_P (dC, dI) vwCl [(mh, .inr (7, [.ref ca, .ref la, .ref sg, .ref pl, .ref rw, .ref tw, .ref ga, .ref pa, .int ni, .int li, .int mi, .int mv, .int nx, .int al, .int nc, .int nl])), (la, .inr (2, [.ref ka, .ref hh])), (ka, .inl (cI, 4, .inl kb0)), (hh, .inl (cI, 4, .inl hb0)), (ah, .inl (cI, 9, .inl vh)), (ag, .inl (cI, 13, .inl vg))] s.heap := hP
  have hl := lv_entry ([.ref mh, .ref ak, .ref ah, .ref ac, .ref ae, .ref aq, .ref ag, .int (1 : Int32), .int p1, .int p2]) (n := 17) (Nat.le_of_ble_eq_true rfl)
  rw [lg_entry_eq]
  generalize (lg_sl ([.ref mh, .ref ak, .ref ah, .ref ac, .ref ae, .ref aq, .ref ag, .int (1 : Int32), .int p1, .int p2]) ++ List.replicate (17 - (lg_sl ([.ref mh, .ref ak, .ref ah, .ref ac, .ref ae, .ref aq, .ref ag, .int (1 : Int32), .int p1, .int p2])).length) Slot.unset).toArray = ls at hl ⊢
  have hl : lv_has ls 17 [(0, .ref mh), (1, .ref ak), (2, .ref ah), (3, .ref ac), (4, .ref ae), (5, .ref aq), (6, .ref ag), (7, .int (1 : Int32)), (8, .int p1), (9, .int p2)] := hl
  refine lv_iload hx hb dL_isTold_0 (lv_at hl 7 rfl) ?_
  refine lv_if_ne (tgt := 207) hx hb dL_isTold_2 (by decide) (fun c_1 => ?_) (fun c_1 => ?_)
  · refine lv_iload hx hb dL_isTold_207 (lv_at hl 7 rfl) ?_
    refine lv_iconst (v := 1) hx hb dL_isTold_209 (by decide) ?_
    refine lv_icmp_ne (tgt := 371) hx hb dL_isTold_210 (by decide) (fun c_2 => ?_) (fun c_2 => ?_)
    · exact absurd (show (1 : Int32) = (1 : Int32) from by decide) c_2
    · refine lv_iload hx hb dL_isTold_213 (lv_at hl 8 rfl) ?_
      refine lv_bipush (v := 9) hx hb dL_isTold_215 (by decide) ?_
      refine zvRem hx hb dL_isTold_217 (by decide) ?_
      refine lv_bipush (v := 8) hx hb dL_isTold_218 (by decide) ?_
      refine zNm (fun R9 Q9 hR9 hQ9 => ?_)
      have J231 : ∀ (v231_0 : Int32), v231_0 = (jL_isTold_1_231_0 ni li mi mv nx al nc nl kb0 hb0 vh vg p1 p2) → ∀ (ls : Array Slot), lv_has ls 17 [(0, .ref mh), (1, .ref ak), (2, .ref ah), (3, .ref ac), (4, .ref ae), (5, .ref aq), (6, .ref ag), (7, .int (1 : Int32)), (8, .int p1), (9, .int p2)] → W p l e R9 s m ([.ref mh, .ref ak, .ref ah, .ref ac, .ref ae, .ref aq, .ref ag, .int (1 : Int32), .int p1, .int p2] : List Value).toArray below meth c s.heap [] 0 0 Q9 (F0 m 231 ls [.int v231_0]) := by
        subst hR9; subst hQ9
        intro v231_0 hvv231_0
        rw [hvv231_0]; clear hvv231_0 v231_0
        intro ls hl
        refine lv_istore (lv' := [(10, .int (jL_isTold_1_231_0 ni li mi mv nx al nc nl kb0 hb0 vh vg p1 p2)), (0, .ref mh), (1, .ref ak), (2, .ref ah), (3, .ref ac), (4, .ref ae), (5, .ref aq), (6, .ref ag), (7, .int (1 : Int32)), (8, .int p1), (9, .int p2)]) hx hb dL_isTold_231 hl (by decide) rfl (fun ls hl => ?_)
        refine lv_iload hx hb dL_isTold_233 (lv_at hl 10 rfl) ?_
        refine lv_bipush (v := 15) hx hb dL_isTold_235 (by decide) ?_
        refine zvRem hx hb dL_isTold_237 (by decide) ?_
        refine lv_bipush (v := 14) hx hb dL_isTold_238 (by decide) ?_
        refine zNm (fun R9 Q9 hR9 hQ9 => ?_)
        have J255 : ∀ (v255_0 : Int32), v255_0 = (jL_isTold_1_255_0 ni li mi mv nx al nc nl kb0 hb0 vh vg p1 p2) → ∀ (ls : Array Slot), lv_has ls 17 [(10, .int (jL_isTold_1_231_0 ni li mi mv nx al nc nl kb0 hb0 vh vg p1 p2)), (0, .ref mh), (1, .ref ak), (2, .ref ah), (3, .ref ac), (4, .ref ae), (5, .ref aq), (6, .ref ag), (7, .int (1 : Int32)), (8, .int p1), (9, .int p2)] → W p l e R9 s m ([.ref mh, .ref ak, .ref ah, .ref ac, .ref ae, .ref aq, .ref ag, .int (1 : Int32), .int p1, .int p2] : List Value).toArray below meth c s.heap [] 0 0 Q9 (F0 m 255 ls [.int v255_0]) := by
          subst hR9; subst hQ9
          intro v255_0 hvv255_0
          rw [hvv255_0]; clear hvv255_0 v255_0
          intro ls hl
          refine lv_istore (lv' := [(11, .int (jL_isTold_1_255_0 ni li mi mv nx al nc nl kb0 hb0 vh vg p1 p2)), (10, .int (jL_isTold_1_231_0 ni li mi mv nx al nc nl kb0 hb0 vh vg p1 p2)), (0, .ref mh), (1, .ref ak), (2, .ref ah), (3, .ref ac), (4, .ref ae), (5, .ref aq), (6, .ref ag), (7, .int (1 : Int32)), (8, .int p1), (9, .int p2)]) hx hb dL_isTold_255 hl (by decide) rfl (fun ls hl => ?_)
          refine lv_iload hx hb dL_isTold_257 (lv_at hl 1 rfl) ?_
          refine lv_iconst (v := 4) hx hb dL_isTold_259 (by decide) ?_
          refine zNm (fun R9 Q9 hR9 hQ9 => ?_)
          have J275 : ∀ (v275_0 : Int32), v275_0 = (jL_isTold_1_275_0 ni li mi mv nx al nc nl kb0 hb0 vh vg p1 p2) → ∀ (ls : Array Slot), lv_has ls 17 [(11, .int (jL_isTold_1_255_0 ni li mi mv nx al nc nl kb0 hb0 vh vg p1 p2)), (10, .int (jL_isTold_1_231_0 ni li mi mv nx al nc nl kb0 hb0 vh vg p1 p2)), (0, .ref mh), (1, .ref ak), (2, .ref ah), (3, .ref ac), (4, .ref ae), (5, .ref aq), (6, .ref ag), (7, .int (1 : Int32)), (8, .int p1), (9, .int p2)] → W p l e R9 s m ([.ref mh, .ref ak, .ref ah, .ref ac, .ref ae, .ref aq, .ref ag, .int (1 : Int32), .int p1, .int p2] : List Value).toArray below meth c s.heap [] 0 0 Q9 (F0 m 275 ls [.int v275_0]) := by
            subst hR9; subst hQ9
            intro v275_0 hvv275_0
            rw [hvv275_0]; clear hvv275_0 v275_0
            intro ls hl
            refine lv_istore (lv' := [(12, .int (jL_isTold_1_275_0 ni li mi mv nx al nc nl kb0 hb0 vh vg p1 p2)), (11, .int (jL_isTold_1_255_0 ni li mi mv nx al nc nl kb0 hb0 vh vg p1 p2)), (10, .int (jL_isTold_1_231_0 ni li mi mv nx al nc nl kb0 hb0 vh vg p1 p2)), (0, .ref mh), (1, .ref ak), (2, .ref ah), (3, .ref ac), (4, .ref ae), (5, .ref aq), (6, .ref ag), (7, .int (1 : Int32)), (8, .int p1), (9, .int p2)]) hx hb dL_isTold_275 hl (by decide) rfl (fun ls hl => ?_)
            refine lv_iload hx hb dL_isTold_277 (lv_at hl 0 rfl) ?_
            refine zNm (fun R9 Q9 hR9 hQ9 => ?_)
            have J292 : ∀ (v292_0 : Int32), v292_0 = (jL_isTold_1_292_0 ni li mi mv nx al nc nl kb0 hb0 vh vg p1 p2) → ∀ (ls : Array Slot), lv_has ls 17 [(12, .int (jL_isTold_1_275_0 ni li mi mv nx al nc nl kb0 hb0 vh vg p1 p2)), (11, .int (jL_isTold_1_255_0 ni li mi mv nx al nc nl kb0 hb0 vh vg p1 p2)), (10, .int (jL_isTold_1_231_0 ni li mi mv nx al nc nl kb0 hb0 vh vg p1 p2)), (0, .ref mh), (1, .ref ak), (2, .ref ah), (3, .ref ac), (4, .ref ae), (5, .ref aq), (6, .ref ag), (7, .int (1 : Int32)), (8, .int p1), (9, .int p2)] → W p l e R9 s m ([.ref mh, .ref ak, .ref ah, .ref ac, .ref ae, .ref aq, .ref ag, .int (1 : Int32), .int p1, .int p2] : List Value).toArray below meth c s.heap [] 0 0 Q9 (F0 m 292 ls [.int v292_0]) := by
              subst hR9; subst hQ9
              intro v292_0 hvv292_0
              rw [hvv292_0]; clear hvv292_0 v292_0
              intro ls hl
              refine lv_istore (lv' := [(13, .int (jL_isTold_1_292_0 ni li mi mv nx al nc nl kb0 hb0 vh vg p1 p2)), (12, .int (jL_isTold_1_275_0 ni li mi mv nx al nc nl kb0 hb0 vh vg p1 p2)), (11, .int (jL_isTold_1_255_0 ni li mi mv nx al nc nl kb0 hb0 vh vg p1 p2)), (10, .int (jL_isTold_1_231_0 ni li mi mv nx al nc nl kb0 hb0 vh vg p1 p2)), (0, .ref mh), (1, .ref ak), (2, .ref ah), (3, .ref ac), (4, .ref ae), (5, .ref aq), (6, .ref ag), (7, .int (1 : Int32)), (8, .int p1), (9, .int p2)]) hx hb dL_isTold_292 hl (by decide) rfl (fun ls hl => ?_)
              refine lv_aload_n hx hb dL_isTold_294 rfl (lv_at hl 6 rfl) ?_
              refine lv_iload hx hb dL_isTold_295 (lv_at hl 1 rfl) ?_
              refine zNm (fun R9 Q9 hR9 hQ9 => ?_)
              have J307 : ∀ (v307_0 : Int32), v307_0 = (jL_isTold_1_307_0 ni li mi mv nx al nc nl kb0 hb0 vh vg p1 p2) → ∀ (ls : Array Slot), lv_has ls 17 [(13, .int (jL_isTold_1_292_0 ni li mi mv nx al nc nl kb0 hb0 vh vg p1 p2)), (12, .int (jL_isTold_1_275_0 ni li mi mv nx al nc nl kb0 hb0 vh vg p1 p2)), (11, .int (jL_isTold_1_255_0 ni li mi mv nx al nc nl kb0 hb0 vh vg p1 p2)), (10, .int (jL_isTold_1_231_0 ni li mi mv nx al nc nl kb0 hb0 vh vg p1 p2)), (0, .ref mh), (1, .ref ak), (2, .ref ah), (3, .ref ac), (4, .ref ae), (5, .ref aq), (6, .ref ag), (7, .int (1 : Int32)), (8, .int p1), (9, .int p2)] → W p l e R9 s m ([.ref mh, .ref ak, .ref ah, .ref ac, .ref ae, .ref aq, .ref ag, .int (1 : Int32), .int p1, .int p2] : List Value).toArray below meth c s.heap [] 0 0 Q9 (F0 m 307 ls [.int v307_0, .ref ah]) := by
                subst hR9; subst hQ9
                intro v307_0 hvv307_0
                rw [hvv307_0]; clear hvv307_0 v307_0
                intro ls hl
                refine lv_iload hx hb dL_isTold_307 (lv_at hl 2 rfl) ?_
                refine lv_iconst (v := 1) hx hb dL_isTold_309 (by decide) ?_
                refine lv_iadd hx hb dL_isTold_310 ?_
                refine va_iast hx hb hK hP hD hS 4 0 rfl rfl (i := (jL_isTold_1_307_0 ni li mi mv nx al nc nl kb0 hb0 vh vg p1 p2)) (x := ((jL_isTold_1_255_0 ni li mi mv nx al nc nl kb0 hb0 vh vg p1 p2) + (1 : Int32))) (hi311 c_1 c_2) dL_isTold_311 (fun H locs hP hD hS => ?_)
                have hP : va_P (dC, dI) vwCl [(mh, .inr (7, [.ref ca, .ref la, .ref sg, .ref pl, .ref rw, .ref tw, .ref ga, .ref pa, .int ni, .int li, .int mi, .int mv, .int nx, .int al, .int nc, .int nl])), (la, .inr (2, [.ref ka, .ref hh])), (ka, .inl (cI, 4, .inl kb0)), (hh, .inl (cI, 4, .inl hb0)), (ah, .inl (cI, 9, .inl (upd vh ((jL_isTold_1_307_0 ni li mi mv nx al nc nl kb0 hb0 vh vg p1 p2)).toNatClampNeg ((jL_isTold_1_255_0 ni li mi mv nx al nc nl kb0 hb0 vh vg p1 p2) + (1 : Int32))))), (ag, .inl (cI, 13, .inl vg))] H := hP
                have hD : va_D A [(mh, .inr (7, [.ref ca, .ref la, .ref sg, .ref pl, .ref rw, .ref tw, .ref ga, .ref pa, .int ni, .int li, .int mi, .int mv, .int nx, .int al, .int nc, .int nl])), (la, .inr (2, [.ref ka, .ref hh])), (ka, .inl (cI, 4, .inl kb0)), (hh, .inl (cI, 4, .inl hb0)), (ah, .inl (cI, 9, .inl (upd vh ((jL_isTold_1_307_0 ni li mi mv nx al nc nl kb0 hb0 vh vg p1 p2)).toNatClampNeg ((jL_isTold_1_255_0 ni li mi mv nx al nc nl kb0 hb0 vh vg p1 p2) + (1 : Int32))))), (ag, .inl (cI, 13, .inl vg))] := hD
                refine lv_aload_n hx hb dL_isTold_312 rfl (lv_at hl 6 rfl) ?_
                refine lv_iload hx hb dL_isTold_313 (lv_at hl 1 rfl) ?_
                refine zNm (fun R9 Q9 hR9 hQ9 => ?_)
                have J334 : ∀ (v334_0 : Int32), v334_0 = (jL_isTold_1_334_0 ni li mi mv nx al nc nl kb0 hb0 vh vg p1 p2) → ∀ (H : Heap) (locs : List Loc) (ls : Array Slot), va_P (dC, dI) vwCl [(mh, .inr (7, [.ref ca, .ref la, .ref sg, .ref pl, .ref rw, .ref tw, .ref ga, .ref pa, .int ni, .int li, .int mi, .int mv, .int nx, .int al, .int nc, .int nl])), (la, .inr (2, [.ref ka, .ref hh])), (ka, .inl (cI, 4, .inl kb0)), (hh, .inl (cI, 4, .inl hb0)), (ah, .inl (cI, 9, .inl (upd vh ((jL_isTold_1_307_0 ni li mi mv nx al nc nl kb0 hb0 vh vg p1 p2)).toNatClampNeg ((jL_isTold_1_255_0 ni li mi mv nx al nc nl kb0 hb0 vh vg p1 p2) + (1 : Int32))))), (ag, .inl (cI, 13, .inl vg))] H → va_D A [(mh, .inr (7, [.ref ca, .ref la, .ref sg, .ref pl, .ref rw, .ref tw, .ref ga, .ref pa, .int ni, .int li, .int mi, .int mv, .int nx, .int al, .int nc, .int nl])), (la, .inr (2, [.ref ka, .ref hh])), (ka, .inl (cI, 4, .inl kb0)), (hh, .inl (cI, 4, .inl hb0)), (ah, .inl (cI, 9, .inl (upd vh ((jL_isTold_1_307_0 ni li mi mv nx al nc nl kb0 hb0 vh vg p1 p2)).toNatClampNeg ((jL_isTold_1_255_0 ni li mi mv nx al nc nl kb0 hb0 vh vg p1 p2) + (1 : Int32))))), (ag, .inl (cI, 13, .inl vg))] → va_S A s.heap H locs → lv_has ls 17 [(13, .int (jL_isTold_1_292_0 ni li mi mv nx al nc nl kb0 hb0 vh vg p1 p2)), (12, .int (jL_isTold_1_275_0 ni li mi mv nx al nc nl kb0 hb0 vh vg p1 p2)), (11, .int (jL_isTold_1_255_0 ni li mi mv nx al nc nl kb0 hb0 vh vg p1 p2)), (10, .int (jL_isTold_1_231_0 ni li mi mv nx al nc nl kb0 hb0 vh vg p1 p2)), (0, .ref mh), (1, .ref ak), (2, .ref ah), (3, .ref ac), (4, .ref ae), (5, .ref aq), (6, .ref ag), (7, .int (1 : Int32)), (8, .int p1), (9, .int p2)] → W p l e R9 s m ([.ref mh, .ref ak, .ref ah, .ref ac, .ref ae, .ref aq, .ref ag, .int (1 : Int32), .int p1, .int p2] : List Value).toArray below meth c H locs 0 0 Q9 (F0 m 334 ls [.int v334_0, .ref ah]) := by
                  subst hR9; subst hQ9
                  intro v334_0 hvv334_0
                  rw [hvv334_0]; clear hvv334_0 v334_0
                  intro H locs ls hP hD hS hl
                  refine lv_iload hx hb dL_isTold_334 (lv_at hl 2 rfl) ?_
                  refine lv_iconst (v := 1) hx hb dL_isTold_336 (by decide) ?_
                  refine lv_iadd hx hb dL_isTold_337 ?_
                  refine va_iast hx hb hK hP hD hS 4 0 rfl rfl (i := (jL_isTold_1_334_0 ni li mi mv nx al nc nl kb0 hb0 vh vg p1 p2)) (x := ((jL_isTold_1_255_0 ni li mi mv nx al nc nl kb0 hb0 vh vg p1 p2) + (1 : Int32))) (hi338 c_1 c_2) dL_isTold_338 (fun H locs hP hD hS => ?_)
                  have hP : va_P (dC, dI) vwCl [(mh, .inr (7, [.ref ca, .ref la, .ref sg, .ref pl, .ref rw, .ref tw, .ref ga, .ref pa, .int ni, .int li, .int mi, .int mv, .int nx, .int al, .int nc, .int nl])), (la, .inr (2, [.ref ka, .ref hh])), (ka, .inl (cI, 4, .inl kb0)), (hh, .inl (cI, 4, .inl hb0)), (ah, .inl (cI, 9, .inl (upd (upd vh ((jL_isTold_1_307_0 ni li mi mv nx al nc nl kb0 hb0 vh vg p1 p2)).toNatClampNeg ((jL_isTold_1_255_0 ni li mi mv nx al nc nl kb0 hb0 vh vg p1 p2) + (1 : Int32))) ((jL_isTold_1_334_0 ni li mi mv nx al nc nl kb0 hb0 vh vg p1 p2)).toNatClampNeg ((jL_isTold_1_255_0 ni li mi mv nx al nc nl kb0 hb0 vh vg p1 p2) + (1 : Int32))))), (ag, .inl (cI, 13, .inl vg))] H := hP
                  have hD : va_D A [(mh, .inr (7, [.ref ca, .ref la, .ref sg, .ref pl, .ref rw, .ref tw, .ref ga, .ref pa, .int ni, .int li, .int mi, .int mv, .int nx, .int al, .int nc, .int nl])), (la, .inr (2, [.ref ka, .ref hh])), (ka, .inl (cI, 4, .inl kb0)), (hh, .inl (cI, 4, .inl hb0)), (ah, .inl (cI, 9, .inl (upd (upd vh ((jL_isTold_1_307_0 ni li mi mv nx al nc nl kb0 hb0 vh vg p1 p2)).toNatClampNeg ((jL_isTold_1_255_0 ni li mi mv nx al nc nl kb0 hb0 vh vg p1 p2) + (1 : Int32))) ((jL_isTold_1_334_0 ni li mi mv nx al nc nl kb0 hb0 vh vg p1 p2)).toNatClampNeg ((jL_isTold_1_255_0 ni li mi mv nx al nc nl kb0 hb0 vh vg p1 p2) + (1 : Int32))))), (ag, .inl (cI, 13, .inl vg))] := hD
                  refine lv_aload_n hx hb dL_isTold_339 rfl (lv_at hl 4 rfl) ?_
                  refine lv_iconst (v := 1) hx hb dL_isTold_340 (by decide) ?_
                  refine lv_iload hx hb dL_isTold_341 (lv_at hl 3 rfl) ?_
                  refine lv_iload hx hb dL_isTold_343 (lv_at hl 2 rfl) ?_
                  refine lv_iconst (v := 0) hx hb dL_isTold_345 (by decide) ?_
                  refine lv_iconst (v := 0) hx hb dL_isTold_346 (by decide) ?_
                  refine zkI (wr := [(ah, .inl (cI, 9, .inl (upd (upd vh ((jL_isTold_1_307_0 ni li mi mv nx al nc nl kb0 hb0 vh vg p1 p2)).toNatClampNeg ((jL_isTold_1_255_0 ni li mi mv nx al nc nl kb0 hb0 vh vg p1 p2) + (1 : Int32))) ((jL_isTold_1_334_0 ni li mi mv nx al nc nl kb0 hb0 vh vg p1 p2)).toNatClampNeg ((jL_isTold_1_255_0 ni li mi mv nx al nc nl kb0 hb0 vh vg p1 p2) + (1 : Int32))))), (ag, .inl (cI, 13, .inl vg))]) (r0 := (rL_does_1 ni li mi mv nx al nc nl kb0 hb0 (jL_isTold_1_231_0 ni li mi mv nx al nc nl kb0 hb0 vh vg p1 p2) (jL_isTold_1_255_0 ni li mi mv nx al nc nl kb0 hb0 vh vg p1 p2) (0 : Int32) (0 : Int32))) (u0 := ((oL_does_1_hb0 ni li mi mv nx al nc nl kb0 hb0 (jL_isTold_1_231_0 ni li mi mv nx al nc nl kb0 hb0 vh vg p1 p2) (jL_isTold_1_255_0 ni li mi mv nx al nc nl kb0 hb0 vh vg p1 p2) (0 : Int32) (0 : Int32)))) (vx_runSW (As := [.ref mh, .int (1 : Int32), .int (jL_isTold_1_231_0 ni li mi mv nx al nc nl kb0 hb0 vh vg p1 p2), .int (jL_isTold_1_255_0 ni li mi mv nx al nc nl kb0 hb0 vh vg p1 p2), .int (0 : Int32), .int (0 : Int32)]) (rest := []) ⟨hx, hb, hml, hown, hts⟩ (c_L_does_1 l hfl dC dI cI cJ mh la ka hh ca sg pl rw tw ga pa H.size ni li mi mv nx al nc nl kb0 hb0 (jL_isTold_1_231_0 ni li mi mv nx al nc nl kb0 hb0 vh vg p1 p2) (jL_isTold_1_255_0 ni li mi mv nx al nc nl kb0 hb0 vh vg p1 p2) (0 : Int32) (0 : Int32) ) (vx_cwSW 6 hts gL_isTold_L_does rfl rfl rfl (by decide +kernel) ⟨Nat.le_of_ble_eq_true rfl, Nat.le_of_ble_eq_true rfl⟩) (zpS hK hP hD hS hA hG [0, 1, 2, 3] (by decide) rfl) rfl rfl hl.1 rfl (lv_room (Nat.le_of_ble_eq_true rfl)) dL_isTold_347 ⟨Nat.le_of_ble_eq_true rfl, Nat.le_of_ble_eq_true rfl⟩) (fun r u h => ⟨h.1, h.2⟩) hP hD hS hA [0, 1, 2, 3] [4, 5] rfl rfl (by decide) (by decide) (fun H locs hP hD hS => ?_)
                  try dsimp only [List.cons_append, List.nil_append] at hP hD
                  have hP : va_P (dC, dI) vwCl [(ah, .inl (cI, 9, .inl (upd (upd vh ((jL_isTold_1_307_0 ni li mi mv nx al nc nl kb0 hb0 vh vg p1 p2)).toNatClampNeg ((jL_isTold_1_255_0 ni li mi mv nx al nc nl kb0 hb0 vh vg p1 p2) + (1 : Int32))) ((jL_isTold_1_334_0 ni li mi mv nx al nc nl kb0 hb0 vh vg p1 p2)).toNatClampNeg ((jL_isTold_1_255_0 ni li mi mv nx al nc nl kb0 hb0 vh vg p1 p2) + (1 : Int32))))), (ag, .inl (cI, 13, .inl vg)), (mh, .inr (7, [.ref ca, .ref la, .ref sg, .ref pl, .ref rw, .ref tw, .ref ga, .ref pa, .int ni, .int li, .int mi, .int mv, .int nx, .int al, .int nc, .int nl])), (la, .inr (2, [.ref ka, .ref hh])), (ka, .inl (cI, 4, .inl kb0)), (hh, .inl (cI, 4, .inl (oL_does_1_hb0 ni li mi mv nx al nc nl kb0 hb0 (jL_isTold_1_231_0 ni li mi mv nx al nc nl kb0 hb0 vh vg p1 p2) (jL_isTold_1_255_0 ni li mi mv nx al nc nl kb0 hb0 vh vg p1 p2) (0 : Int32) (0 : Int32))))] H := hP
                  have hD : va_D A [(ah, .inl (cI, 9, .inl (upd (upd vh ((jL_isTold_1_307_0 ni li mi mv nx al nc nl kb0 hb0 vh vg p1 p2)).toNatClampNeg ((jL_isTold_1_255_0 ni li mi mv nx al nc nl kb0 hb0 vh vg p1 p2) + (1 : Int32))) ((jL_isTold_1_334_0 ni li mi mv nx al nc nl kb0 hb0 vh vg p1 p2)).toNatClampNeg ((jL_isTold_1_255_0 ni li mi mv nx al nc nl kb0 hb0 vh vg p1 p2) + (1 : Int32))))), (ag, .inl (cI, 13, .inl vg)), (mh, .inr (7, [.ref ca, .ref la, .ref sg, .ref pl, .ref rw, .ref tw, .ref ga, .ref pa, .int ni, .int li, .int mi, .int mv, .int nx, .int al, .int nc, .int nl])), (la, .inr (2, [.ref ka, .ref hh])), (ka, .inl (cI, 4, .inl kb0)), (hh, .inl (cI, 4, .inl (oL_does_1_hb0 ni li mi mv nx al nc nl kb0 hb0 (jL_isTold_1_231_0 ni li mi mv nx al nc nl kb0 hb0 vh vg p1 p2) (jL_isTold_1_255_0 ni li mi mv nx al nc nl kb0 hb0 vh vg p1 p2) (0 : Int32) (0 : Int32))))] := hD
                  refine W.widen (k := 1) (n := 6) (by decide) (by decide) ?_
                  refine lv_iload hx hb dL_isTold_350 (lv_at hl 1 rfl) ?_
                  refine zNm (fun R9 Q9 hR9 hQ9 => ?_)
                  have J362 : ∀ (v362_0 : Int32), v362_0 = (jL_isTold_1_362_0 ni li mi mv nx al nc nl kb0 hb0 vh vg p1 p2) → ∀ (H : Heap) (locs : List Loc) (ls : Array Slot), va_P (dC, dI) vwCl [(ah, .inl (cI, 9, .inl (upd (upd vh ((jL_isTold_1_307_0 ni li mi mv nx al nc nl kb0 hb0 vh vg p1 p2)).toNatClampNeg ((jL_isTold_1_255_0 ni li mi mv nx al nc nl kb0 hb0 vh vg p1 p2) + (1 : Int32))) ((jL_isTold_1_334_0 ni li mi mv nx al nc nl kb0 hb0 vh vg p1 p2)).toNatClampNeg ((jL_isTold_1_255_0 ni li mi mv nx al nc nl kb0 hb0 vh vg p1 p2) + (1 : Int32))))), (ag, .inl (cI, 13, .inl vg)), (mh, .inr (7, [.ref ca, .ref la, .ref sg, .ref pl, .ref rw, .ref tw, .ref ga, .ref pa, .int ni, .int li, .int mi, .int mv, .int nx, .int al, .int nc, .int nl])), (la, .inr (2, [.ref ka, .ref hh])), (ka, .inl (cI, 4, .inl kb0)), (hh, .inl (cI, 4, .inl (oL_does_1_hb0 ni li mi mv nx al nc nl kb0 hb0 (jL_isTold_1_231_0 ni li mi mv nx al nc nl kb0 hb0 vh vg p1 p2) (jL_isTold_1_255_0 ni li mi mv nx al nc nl kb0 hb0 vh vg p1 p2) (0 : Int32) (0 : Int32))))] H → va_D A [(ah, .inl (cI, 9, .inl (upd (upd vh ((jL_isTold_1_307_0 ni li mi mv nx al nc nl kb0 hb0 vh vg p1 p2)).toNatClampNeg ((jL_isTold_1_255_0 ni li mi mv nx al nc nl kb0 hb0 vh vg p1 p2) + (1 : Int32))) ((jL_isTold_1_334_0 ni li mi mv nx al nc nl kb0 hb0 vh vg p1 p2)).toNatClampNeg ((jL_isTold_1_255_0 ni li mi mv nx al nc nl kb0 hb0 vh vg p1 p2) + (1 : Int32))))), (ag, .inl (cI, 13, .inl vg)), (mh, .inr (7, [.ref ca, .ref la, .ref sg, .ref pl, .ref rw, .ref tw, .ref ga, .ref pa, .int ni, .int li, .int mi, .int mv, .int nx, .int al, .int nc, .int nl])), (la, .inr (2, [.ref ka, .ref hh])), (ka, .inl (cI, 4, .inl kb0)), (hh, .inl (cI, 4, .inl (oL_does_1_hb0 ni li mi mv nx al nc nl kb0 hb0 (jL_isTold_1_231_0 ni li mi mv nx al nc nl kb0 hb0 vh vg p1 p2) (jL_isTold_1_255_0 ni li mi mv nx al nc nl kb0 hb0 vh vg p1 p2) (0 : Int32) (0 : Int32))))] → va_S A s.heap H locs → lv_has ls 17 [(13, .int (jL_isTold_1_292_0 ni li mi mv nx al nc nl kb0 hb0 vh vg p1 p2)), (12, .int (jL_isTold_1_275_0 ni li mi mv nx al nc nl kb0 hb0 vh vg p1 p2)), (11, .int (jL_isTold_1_255_0 ni li mi mv nx al nc nl kb0 hb0 vh vg p1 p2)), (10, .int (jL_isTold_1_231_0 ni li mi mv nx al nc nl kb0 hb0 vh vg p1 p2)), (0, .ref mh), (1, .ref ak), (2, .ref ah), (3, .ref ac), (4, .ref ae), (5, .ref aq), (6, .ref ag), (7, .int (1 : Int32)), (8, .int p1), (9, .int p2)] → W p l e R9 s m ([.ref mh, .ref ak, .ref ah, .ref ac, .ref ae, .ref aq, .ref ag, .int (1 : Int32), .int p1, .int p2] : List Value).toArray below meth c H locs 1 6 Q9 (F0 m 362 ls [.int v362_0, .int (rL_does_1 ni li mi mv nx al nc nl kb0 hb0 (jL_isTold_1_231_0 ni li mi mv nx al nc nl kb0 hb0 vh vg p1 p2) (jL_isTold_1_255_0 ni li mi mv nx al nc nl kb0 hb0 vh vg p1 p2) (0 : Int32) (0 : Int32))]) := by
                    subst hR9; subst hQ9
                    intro v362_0 hvv362_0
                    rw [hvv362_0]; clear hvv362_0 v362_0
                    intro H locs ls hP hD hS hl
                    refine lv_icmp_ne (tgt := 369) hx hb dL_isTold_362 (by decide) (fun c_3 => ?_) (fun c_3 => ?_)
                    · refine lv_iconst (v := 0) hx hb dL_isTold_369 (by decide) ?_
                      refine W.widen (k := 1) (n := 6) (by decide) (by decide) ?_
                      exact W.zret (v := (0 : Int32)) hx hb hr (zNar (Or.inl rfl)) (fun t ht hW => ⟨⟨(0 : Int32), ((oL_does_1_hb0 ni li mi mv nx al nc nl kb0 hb0 (jL_isTold_1_231_0 ni li mi mv nx al nc nl kb0 hb0 vh vg p1 p2) (jL_isTold_1_255_0 ni li mi mv nx al nc nl kb0 hb0 vh vg p1 p2) (0 : Int32) (0 : Int32)), (upd (upd vh ((jL_isTold_1_307_0 ni li mi mv nx al nc nl kb0 hb0 vh vg p1 p2)).toNatClampNeg ((jL_isTold_1_255_0 ni li mi mv nx al nc nl kb0 hb0 vh vg p1 p2) + (1 : Int32))) ((jL_isTold_1_334_0 ni li mi mv nx al nc nl kb0 hb0 vh vg p1 p2)).toNatClampNeg ((jL_isTold_1_255_0 ni li mi mv nx al nc nl kb0 hb0 vh vg p1 p2) + (1 : Int32)))), rfl, ⟨(by unfold rL_isTold_1; rw [if_neg c_3]), (by unfold oL_isTold_1_hb0; rfl), (by unfold oL_isTold_1_vh; rfl)⟩, (by (try dsimp only); rw [ht]; exact hP.sub [2, 3, 4, 5, 0, 1] rfl), va_K.moved hW.alike hK, (by (try dsimp only); exact hD.sub [2, 3, 4, 5, 0, 1] (by decide) rfl)⟩, hS.F ht⟩) hS.2.2 dL_isTold_370
                    · refine lv_iconst (v := 1) hx hb dL_isTold_365 (by decide) ?_
                      refine lv_goto (tgt := 370) hx hb dL_isTold_366 (by decide) ?_
                      refine W.widen (k := 1) (n := 6) (by decide) (by decide) ?_
                      exact W.zret (v := (1 : Int32)) hx hb hr (zNar (Or.inr rfl)) (fun t ht hW => ⟨⟨(1 : Int32), ((oL_does_1_hb0 ni li mi mv nx al nc nl kb0 hb0 (jL_isTold_1_231_0 ni li mi mv nx al nc nl kb0 hb0 vh vg p1 p2) (jL_isTold_1_255_0 ni li mi mv nx al nc nl kb0 hb0 vh vg p1 p2) (0 : Int32) (0 : Int32)), (upd (upd vh ((jL_isTold_1_307_0 ni li mi mv nx al nc nl kb0 hb0 vh vg p1 p2)).toNatClampNeg ((jL_isTold_1_255_0 ni li mi mv nx al nc nl kb0 hb0 vh vg p1 p2) + (1 : Int32))) ((jL_isTold_1_334_0 ni li mi mv nx al nc nl kb0 hb0 vh vg p1 p2)).toNatClampNeg ((jL_isTold_1_255_0 ni li mi mv nx al nc nl kb0 hb0 vh vg p1 p2) + (1 : Int32)))), rfl, ⟨(by unfold rL_isTold_1; rw [if_pos c_3]), (by unfold oL_isTold_1_hb0; rfl), (by unfold oL_isTold_1_vh; rfl)⟩, (by (try dsimp only); rw [ht]; exact hP.sub [2, 3, 4, 5, 0, 1] rfl), va_K.moved hW.alike hK, (by (try dsimp only); exact hD.sub [2, 3, 4, 5, 0, 1] (by decide) rfl)⟩, hS.F ht⟩) hS.2.2 dL_isTold_370
                  subst hR9; subst hQ9
                  refine lv_if_eq (tgt := 360) hx hb dL_isTold_352 (by decide) (fun c_4 => ?_) (fun c_4 => ?_)
                  · refine lv_ldc (v := -3000000) hx hb hown (hts _ kL_isTold_1_0) dL_isTold_360 ?_
                    exact J362 (-3000000 : Int32) (by unfold jL_isTold_1_362_0; rw [if_pos c_4]) _ _ _ hP hD hS (lv_sub hl [0, 1, 2, 3, 4, 5, 6, 7, 8, 9, 10, 11, 12, 13] rfl)
                  · refine lv_iload hx hb dL_isTold_355 (lv_at hl 0 rfl) ?_
                    refine lv_goto (tgt := 362) hx hb dL_isTold_357 (by decide) ?_
                    exact J362 (jL_isTold_1_292_0 ni li mi mv nx al nc nl kb0 hb0 vh vg p1 p2) (by unfold jL_isTold_1_362_0; rw [if_neg c_4]) _ _ _ hP hD hS (lv_sub hl [0, 1, 2, 3, 4, 5, 6, 7, 8, 9, 10, 11, 12, 13] rfl)
                subst hR9; subst hQ9
                refine lv_if_eq (tgt := 332) hx hb dL_isTold_315 (by decide) (fun c_5 => ?_) (fun c_5 => ?_)
                · refine lv_bipush (v := 8) hx hb dL_isTold_332 (by decide) ?_
                  exact J334 (8 : Int32) (by unfold jL_isTold_1_334_0; rw [if_pos c_5]) _ _ _ hP hD hS (lv_sub hl [0, 1, 2, 3, 4, 5, 6, 7, 8, 9, 10, 11, 12, 13] rfl)
                · refine lv_aload hx hb dL_isTold_318 (lv_at hl 10 rfl) ?_
                  refine lv_iconst (v := 4) hx hb dL_isTold_320 (by decide) ?_
                  refine va_iald hx hb hK hP 5 0 rfl rfl (i := (4 : Int32)) (by unfold vp_in; decide) dL_isTold_321 ?_
                  refine lv_if_ne (tgt := 332) hx hb dL_isTold_322 (by decide) (fun c_6 => ?_) (fun c_6 => ?_)
                  · refine lv_bipush (v := 8) hx hb dL_isTold_332 (by decide) ?_
                    exact J334 (8 : Int32) (by unfold jL_isTold_1_334_0; rw [if_neg c_5, if_neg c_6]) _ _ _ hP hD hS (lv_sub hl [0, 1, 2, 3, 4, 5, 6, 7, 8, 9, 10, 11, 12, 13] rfl)
                  · refine lv_iconst (v := 4) hx hb dL_isTold_325 (by decide) ?_
                    refine lv_iload hx hb dL_isTold_326 (lv_at hl 3 rfl) ?_
                    refine lv_iadd hx hb dL_isTold_328 ?_
                    refine lv_goto (tgt := 334) hx hb dL_isTold_329 (by decide) ?_
                    exact J334 ((4 : Int32) + (jL_isTold_1_231_0 ni li mi mv nx al nc nl kb0 hb0 vh vg p1 p2)) (by unfold jL_isTold_1_334_0; rw [if_neg c_5, if_pos c_6]) _ _ _ hP hD hS (lv_sub hl [0, 1, 2, 3, 4, 5, 6, 7, 8, 9, 10, 11, 12, 13] rfl)
              subst hR9; subst hQ9
              refine lv_if_eq (tgt := 305) hx hb dL_isTold_297 (by decide) (fun c_7 => ?_) (fun c_7 => ?_)
              · refine lv_bipush (v := 8) hx hb dL_isTold_305 (by decide) ?_
                exact J307 (8 : Int32) (by unfold jL_isTold_1_307_0; rw [if_pos c_7]) _ (lv_sub hl [0, 1, 2, 3, 4, 5, 6, 7, 8, 9, 10, 11, 12, 13] rfl)
              · refine lv_iload hx hb dL_isTold_300 (lv_at hl 3 rfl) ?_
                refine lv_goto (tgt := 307) hx hb dL_isTold_302 (by decide) ?_
                exact J307 (jL_isTold_1_231_0 ni li mi mv nx al nc nl kb0 hb0 vh vg p1 p2) (by unfold jL_isTold_1_307_0; rw [if_neg c_7]) _ (lv_sub hl [0, 1, 2, 3, 4, 5, 6, 7, 8, 9, 10, 11, 12, 13] rfl)
            subst hR9; subst hQ9
            refine lv_if_eq (tgt := 291) hx hb dL_isTold_279 (by decide) (fun c_8 => ?_) (fun c_8 => ?_)
            · refine lv_iconst (v := 0) hx hb dL_isTold_291 (by decide) ?_
              exact J292 (0 : Int32) (by unfold jL_isTold_1_292_0; rw [if_pos c_8]) _ (lv_sub hl [0, 1, 2, 3, 4, 5, 6, 7, 8, 9, 10, 11, 12] rfl)
            · refine lv_aload_n hx hb dL_isTold_282 rfl (lv_at hl 5 rfl) ?_
              refine lv_iload hx hb dL_isTold_283 (lv_at hl 2 rfl) ?_
              refine va_iald hx hb hK hP 4 0 rfl rfl (i := (jL_isTold_1_231_0 ni li mi mv nx al nc nl kb0 hb0 vh vg p1 p2)) (hi285 c_1 c_2 c_8) dL_isTold_285 ?_
              refine lv_iconst (v := 1) hx hb dL_isTold_286 (by decide) ?_
              refine lv_isub hx hb dL_isTold_287 ?_
              refine lv_goto (tgt := 292) hx hb dL_isTold_288 (by decide) ?_
              exact J292 ((vh ((jL_isTold_1_231_0 ni li mi mv nx al nc nl kb0 hb0 vh vg p1 p2)).toNatClampNeg) - (1 : Int32)) (by unfold jL_isTold_1_292_0; rw [if_neg c_8]) _ (lv_sub hl [0, 1, 2, 3, 4, 5, 6, 7, 8, 9, 10, 11, 12] rfl)
          subst hR9; subst hQ9
          refine lv_icmp_ge (tgt := 274) hx hb dL_isTold_260 (by decide) (fun c_9 => ?_) (fun c_9 => ?_)
          · refine lv_iconst (v := 0) hx hb dL_isTold_274 (by decide) ?_
            exact J275 (0 : Int32) (by unfold jL_isTold_1_275_0; rw [if_pos c_9]) _ (lv_sub hl [0, 1, 2, 3, 4, 5, 6, 7, 8, 9, 10, 11] rfl)
          · refine lv_iload hx hb dL_isTold_263 (lv_at hl 0 rfl) ?_
            refine lv_bipush (v := 6) hx hb dL_isTold_265 (by decide) ?_
            refine lv_icmp_ge (tgt := 274) hx hb dL_isTold_267 (by decide) (fun c_10 => ?_) (fun c_10 => ?_)
            · refine lv_iconst (v := 0) hx hb dL_isTold_274 (by decide) ?_
              exact J275 (0 : Int32) (by unfold jL_isTold_1_275_0; rw [if_neg c_9, if_pos c_10]) _ (lv_sub hl [0, 1, 2, 3, 4, 5, 6, 7, 8, 9, 10, 11] rfl)
            · refine lv_iconst (v := 1) hx hb dL_isTold_270 (by decide) ?_
              refine lv_goto (tgt := 275) hx hb dL_isTold_271 (by decide) ?_
              exact J275 (1 : Int32) (by unfold jL_isTold_1_275_0; rw [if_neg c_9, if_neg c_10]) _ (lv_sub hl [0, 1, 2, 3, 4, 5, 6, 7, 8, 9, 10, 11] rfl)
        subst hR9; subst hQ9
        refine lv_icmp_ne (tgt := 248) hx hb dL_isTold_240 (by decide) (fun c_11 => ?_) (fun c_11 => ?_)
        · refine lv_iload hx hb dL_isTold_248 (lv_at hl 10 rfl) ?_
          refine lv_bipush (v := 7) hx hb dL_isTold_250 (by decide) ?_
          refine zvRem hx hb dL_isTold_252 (by decide) ?_
          refine lv_iconst (v := 1) hx hb dL_isTold_253 (by decide) ?_
          refine lv_isub hx hb dL_isTold_254 ?_
          exact J255 ((zRem p2 (7 : Int32)) - (1 : Int32)) (by unfold jL_isTold_1_255_0; rw [if_neg c_11]) _ (lv_sub hl [0, 1, 2, 3, 4, 5, 6, 7, 8, 9, 10] rfl)
        · refine lv_bipush (v := 6) hx hb dL_isTold_243 (by decide) ?_
          refine lv_goto (tgt := 255) hx hb dL_isTold_245 (by decide) ?_
          exact J255 (6 : Int32) (by unfold jL_isTold_1_255_0; rw [if_pos c_11]) _ (lv_sub hl [0, 1, 2, 3, 4, 5, 6, 7, 8, 9, 10] rfl)
      subst hR9; subst hQ9
      refine lv_icmp_ne (tgt := 227) hx hb dL_isTold_220 (by decide) (fun c_12 => ?_) (fun c_12 => ?_)
      · refine lv_iload hx hb dL_isTold_227 (lv_at hl 8 rfl) ?_
        refine lv_iconst (v := 4) hx hb dL_isTold_229 (by decide) ?_
        refine zvRem hx hb dL_isTold_230 (by decide) ?_
        exact J231 (zRem p1 (4 : Int32)) (by unfold jL_isTold_1_231_0; rw [if_neg c_12]) _ (lv_sub hl [0, 1, 2, 3, 4, 5, 6, 7, 8, 9] rfl)
      · refine lv_iconst (v := 4) hx hb dL_isTold_223 (by decide) ?_
        refine lv_goto (tgt := 231) hx hb dL_isTold_224 (by decide) ?_
        exact J231 (4 : Int32) (by unfold jL_isTold_1_231_0; rw [if_pos c_12]) _ (lv_sub hl [0, 1, 2, 3, 4, 5, 6, 7, 8, 9] rfl)
  · exact absurd c_1 (by decide)
theorem brL_isTold_1 (ni : Int32) (li : Int32) (mi : Int32) (mv : Int32) (nx : Int32) (al : Int32) (nc : Int32) (nl : Int32) (kb0 : Nat → Int32) (hb0 : Nat → Int32) (vh : Nat → Int32) (vg : Nat → Int32) (p1 : Int32) (p2 : Int32) : rL_isTold_1 ni li mi mv nx al nc nl kb0 hb0 vh vg p1 p2 = 0 ∨ rL_isTold_1 ni li mi mv nx al nc nl kb0 hb0 vh vg p1 p2 = 1 := by
  unfold rL_isTold_1
  repeat' split
  all_goals first | exact Or.inl rfl | exact Or.inr rfl
