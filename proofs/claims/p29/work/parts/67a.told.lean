/-! L_isTold -/
def jL_isTold_0_62_0 (ni : Int32) (li : Int32) (mi : Int32) (mv : Int32) (nx : Int32) (al : Int32) (nc : Int32) (nl : Int32) (kb0 : Nat → Int32) (hb0 : Nat → Int32) (vk : Nat → Int32) (vg : Nat → Int32) (p1 : Int32) (p2 : Int32) : Int32 := (if (zRem (p1 / (13 : Int32)) (3 : Int32)) ≤ 0 then (0 : Int32) else (1 : Int32))
theorem bjL_isTold_0_62_0 (ni : Int32) (li : Int32) (mi : Int32) (mv : Int32) (nx : Int32) (al : Int32) (nc : Int32) (nl : Int32) (kb0 : Nat → Int32) (hb0 : Nat → Int32) (vk : Nat → Int32) (vg : Nat → Int32) (p1 : Int32) (p2 : Int32) : jL_isTold_0_62_0 ni li mi mv nx al nc nl kb0 hb0 vk vg p1 p2 = 0 ∨ jL_isTold_0_62_0 ni li mi mv nx al nc nl kb0 hb0 vk vg p1 p2 = 1 := by
  unfold jL_isTold_0_62_0
  repeat' split
  all_goals first | exact Or.inl rfl | exact Or.inr rfl
def jL_isTold_0_182_0 (ni : Int32) (li : Int32) (mi : Int32) (mv : Int32) (nx : Int32) (al : Int32) (nc : Int32) (nl : Int32) (kb0 : Nat → Int32) (hb0 : Nat → Int32) (vk : Nat → Int32) (vg : Nat → Int32) (p1 : Int32) (p2 : Int32) : Int32 := (if (jL_isTold_0_62_0 ni li mi mv nx al nc nl kb0 hb0 vk vg p1 p2) = 0 then (0 : Int32) else (1 : Int32))
theorem bjL_isTold_0_182_0 (ni : Int32) (li : Int32) (mi : Int32) (mv : Int32) (nx : Int32) (al : Int32) (nc : Int32) (nl : Int32) (kb0 : Nat → Int32) (hb0 : Nat → Int32) (vk : Nat → Int32) (vg : Nat → Int32) (p1 : Int32) (p2 : Int32) : jL_isTold_0_182_0 ni li mi mv nx al nc nl kb0 hb0 vk vg p1 p2 = 0 ∨ jL_isTold_0_182_0 ni li mi mv nx al nc nl kb0 hb0 vk vg p1 p2 = 1 := by
  unfold jL_isTold_0_182_0
  repeat' split
  all_goals first | exact Or.inl rfl | exact Or.inr rfl
def jL_isTold_0_165_0 (ni : Int32) (li : Int32) (mi : Int32) (mv : Int32) (nx : Int32) (al : Int32) (nc : Int32) (nl : Int32) (kb0 : Nat → Int32) (hb0 : Nat → Int32) (vk : Nat → Int32) (vg : Nat → Int32) (p1 : Int32) (p2 : Int32) : Int32 := (if (jL_isTold_0_62_0 ni li mi mv nx al nc nl kb0 hb0 vk vg p1 p2) = 0 then (0 : Int32) else (1 : Int32))
theorem bjL_isTold_0_165_0 (ni : Int32) (li : Int32) (mi : Int32) (mv : Int32) (nx : Int32) (al : Int32) (nc : Int32) (nl : Int32) (kb0 : Nat → Int32) (hb0 : Nat → Int32) (vk : Nat → Int32) (vg : Nat → Int32) (p1 : Int32) (p2 : Int32) : jL_isTold_0_165_0 ni li mi mv nx al nc nl kb0 hb0 vk vg p1 p2 = 0 ∨ jL_isTold_0_165_0 ni li mi mv nx al nc nl kb0 hb0 vk vg p1 p2 = 1 := by
  unfold jL_isTold_0_165_0
  repeat' split
  all_goals first | exact Or.inl rfl | exact Or.inr rfl
def jL_isTold_0_131_0 (ni : Int32) (li : Int32) (mi : Int32) (mv : Int32) (nx : Int32) (al : Int32) (nc : Int32) (nl : Int32) (kb0 : Nat → Int32) (hb0 : Nat → Int32) (vk : Nat → Int32) (vg : Nat → Int32) (p1 : Int32) (p2 : Int32) : Int32 := (if (jL_isTold_0_62_0 ni li mi mv nx al nc nl kb0 hb0 vk vg p1 p2) = 0 then (0 : Int32) else (1 : Int32))
theorem bjL_isTold_0_131_0 (ni : Int32) (li : Int32) (mi : Int32) (mv : Int32) (nx : Int32) (al : Int32) (nc : Int32) (nl : Int32) (kb0 : Nat → Int32) (hb0 : Nat → Int32) (vk : Nat → Int32) (vg : Nat → Int32) (p1 : Int32) (p2 : Int32) : jL_isTold_0_131_0 ni li mi mv nx al nc nl kb0 hb0 vk vg p1 p2 = 0 ∨ jL_isTold_0_131_0 ni li mi mv nx al nc nl kb0 hb0 vk vg p1 p2 = 1 := by
  unfold jL_isTold_0_131_0
  repeat' split
  all_goals first | exact Or.inl rfl | exact Or.inr rfl
def jL_isTold_0_45_0 (ni : Int32) (li : Int32) (mi : Int32) (mv : Int32) (nx : Int32) (al : Int32) (nc : Int32) (nl : Int32) (kb0 : Nat → Int32) (hb0 : Nat → Int32) (vk : Nat → Int32) (vg : Nat → Int32) (p1 : Int32) (p2 : Int32) : Int32 := (if (zRem p2 (9 : Int32)) = (8 : Int32) then (4 : Int32) else (zRem p2 (4 : Int32)))
def jL_isTold_0_25_0 (ni : Int32) (li : Int32) (mi : Int32) (mv : Int32) (nx : Int32) (al : Int32) (nc : Int32) (nl : Int32) (kb0 : Nat → Int32) (hb0 : Nat → Int32) (vk : Nat → Int32) (vg : Nat → Int32) (p1 : Int32) (p2 : Int32) : Int32 := (if (zRem p1 (13 : Int32)) = (12 : Int32) then (6 : Int32) else (zRem p1 (6 : Int32)))
def jL_isTold_0_82_0 (ni : Int32) (li : Int32) (mi : Int32) (mv : Int32) (nx : Int32) (al : Int32) (nc : Int32) (nl : Int32) (kb0 : Nat → Int32) (hb0 : Nat → Int32) (vk : Nat → Int32) (vg : Nat → Int32) (p1 : Int32) (p2 : Int32) : Int32 := (if (6 : Int32) ≤ (jL_isTold_0_25_0 ni li mi mv nx al nc nl kb0 hb0 vk vg p1 p2) then (0 : Int32) else (if (4 : Int32) ≤ (jL_isTold_0_45_0 ni li mi mv nx al nc nl kb0 hb0 vk vg p1 p2) then (0 : Int32) else (1 : Int32)))
theorem bjL_isTold_0_82_0 (ni : Int32) (li : Int32) (mi : Int32) (mv : Int32) (nx : Int32) (al : Int32) (nc : Int32) (nl : Int32) (kb0 : Nat → Int32) (hb0 : Nat → Int32) (vk : Nat → Int32) (vg : Nat → Int32) (p1 : Int32) (p2 : Int32) : jL_isTold_0_82_0 ni li mi mv nx al nc nl kb0 hb0 vk vg p1 p2 = 0 ∨ jL_isTold_0_82_0 ni li mi mv nx al nc nl kb0 hb0 vk vg p1 p2 = 1 := by
  unfold jL_isTold_0_82_0
  repeat' split
  all_goals first | exact Or.inl rfl | exact Or.inr rfl
def jL_isTold_0_100_0 (ni : Int32) (li : Int32) (mi : Int32) (mv : Int32) (nx : Int32) (al : Int32) (nc : Int32) (nl : Int32) (kb0 : Nat → Int32) (hb0 : Nat → Int32) (vk : Nat → Int32) (vg : Nat → Int32) (p1 : Int32) (p2 : Int32) : Int32 := (if (jL_isTold_0_82_0 ni li mi mv nx al nc nl kb0 hb0 vk vg p1 p2) = 0 then (0 : Int32) else (((4 : Int32) * (jL_isTold_0_25_0 ni li mi mv nx al nc nl kb0 hb0 vk vg p1 p2)) + (jL_isTold_0_45_0 ni li mi mv nx al nc nl kb0 hb0 vk vg p1 p2)))
def jL_isTold_0_198_0 (ni : Int32) (li : Int32) (mi : Int32) (mv : Int32) (nx : Int32) (al : Int32) (nc : Int32) (nl : Int32) (kb0 : Nat → Int32) (hb0 : Nat → Int32) (vk : Nat → Int32) (vg : Nat → Int32) (p1 : Int32) (p2 : Int32) : Int32 := (if (jL_isTold_0_82_0 ni li mi mv nx al nc nl kb0 hb0 vk vg p1 p2) = 0 then (-3000000 : Int32) else (vk ((jL_isTold_0_100_0 ni li mi mv nx al nc nl kb0 hb0 vk vg p1 p2)).toNatClampNeg))
def jL_isTold_0_155_0 (ni : Int32) (li : Int32) (mi : Int32) (mv : Int32) (nx : Int32) (al : Int32) (nc : Int32) (nl : Int32) (kb0 : Nat → Int32) (hb0 : Nat → Int32) (vk : Nat → Int32) (vg : Nat → Int32) (p1 : Int32) (p2 : Int32) : Int32 := (if (jL_isTold_0_82_0 ni li mi mv nx al nc nl kb0 hb0 vk vg p1 p2) = 0 then (48 : Int32) else (if (vg ((4 : Int32)).toNatClampNeg) = 0 then ((24 : Int32) + (jL_isTold_0_100_0 ni li mi mv nx al nc nl kb0 hb0 vk vg p1 p2)) else (48 : Int32)))
def jL_isTold_0_121_0 (ni : Int32) (li : Int32) (mi : Int32) (mv : Int32) (nx : Int32) (al : Int32) (nc : Int32) (nl : Int32) (kb0 : Nat → Int32) (hb0 : Nat → Int32) (vk : Nat → Int32) (vg : Nat → Int32) (p1 : Int32) (p2 : Int32) : Int32 := (if (jL_isTold_0_82_0 ni li mi mv nx al nc nl kb0 hb0 vk vg p1 p2) = 0 then (48 : Int32) else (jL_isTold_0_100_0 ni li mi mv nx al nc nl kb0 hb0 vk vg p1 p2))
def rL_isTold_0 (ni : Int32) (li : Int32) (mi : Int32) (mv : Int32) (nx : Int32) (al : Int32) (nc : Int32) (nl : Int32) (kb0 : Nat → Int32) (hb0 : Nat → Int32) (vk : Nat → Int32) (vg : Nat → Int32) (p1 : Int32) (p2 : Int32) : Int32 := (if (rL_does_0 ni li mi mv nx al nc nl kb0 hb0 (jL_isTold_0_25_0 ni li mi mv nx al nc nl kb0 hb0 vk vg p1 p2) (jL_isTold_0_45_0 ni li mi mv nx al nc nl kb0 hb0 vk vg p1 p2) (jL_isTold_0_182_0 ni li mi mv nx al nc nl kb0 hb0 vk vg p1 p2) (0 : Int32)) = (jL_isTold_0_198_0 ni li mi mv nx al nc nl kb0 hb0 vk vg p1 p2) then (1 : Int32) else (0 : Int32))
def oL_isTold_0_kb0 (ni : Int32) (li : Int32) (mi : Int32) (mv : Int32) (nx : Int32) (al : Int32) (nc : Int32) (nl : Int32) (kb0 : Nat → Int32) (hb0 : Nat → Int32) (vk : Nat → Int32) (vg : Nat → Int32) (p1 : Int32) (p2 : Int32) : Nat → Int32 := (oL_does_0_kb0 ni li mi mv nx al nc nl kb0 hb0 (jL_isTold_0_25_0 ni li mi mv nx al nc nl kb0 hb0 vk vg p1 p2) (jL_isTold_0_45_0 ni li mi mv nx al nc nl kb0 hb0 vk vg p1 p2) (jL_isTold_0_182_0 ni li mi mv nx al nc nl kb0 hb0 vk vg p1 p2) (0 : Int32))
def oL_isTold_0_vk (ni : Int32) (li : Int32) (mi : Int32) (mv : Int32) (nx : Int32) (al : Int32) (nc : Int32) (nl : Int32) (kb0 : Nat → Int32) (hb0 : Nat → Int32) (vk : Nat → Int32) (vg : Nat → Int32) (p1 : Int32) (p2 : Int32) : Nat → Int32 := (upd (upd vk ((jL_isTold_0_121_0 ni li mi mv nx al nc nl kb0 hb0 vk vg p1 p2)).toNatClampNeg (jL_isTold_0_131_0 ni li mi mv nx al nc nl kb0 hb0 vk vg p1 p2)) ((jL_isTold_0_155_0 ni li mi mv nx al nc nl kb0 hb0 vk vg p1 p2)).toNatClampNeg (jL_isTold_0_165_0 ni li mi mv nx al nc nl kb0 hb0 vk vg p1 p2))
set_option maxRecDepth 20000 in
theorem kL_isTold_0_0 : Cond.constant RL 84 (-3000000) ∈ wsL_isTold := by decide +kernel
set_option maxHeartbeats 7640000 in
set_option maxRecDepth 100000 in
theorem c_L_isTold_0 (l : Launch) (hfl : l.stackTraces = false) (dC : Nat → ClassId) (dI : Nat → Nat → Nat) (cI cJ : ClassId) (mh la ka hh ak ag ah ac ae aq ca sg pl rw tw ga pa : Nat) (sz : Nat) (ni : Int32) (li : Int32) (mi : Int32) (mv : Int32) (nx : Int32) (al : Int32) (nc : Int32) (nl : Int32) (kb0 : Nat → Int32) (hb0 : Nat → Int32) (vk : Nat → Int32) (vg : Nat → Int32) (p1 : Int32) (p2 : Int32) (hi105 : (0 : Int32) = 0 → vp_in (jL_isTold_0_100_0 ni li mi mv nx al nc nl kb0 hb0 vk vg p1 p2) 49) (hi131 : (0 : Int32) = 0 → vp_in (jL_isTold_0_121_0 ni li mi mv nx al nc nl kb0 hb0 vk vg p1 p2) 49) (hi165 : (0 : Int32) = 0 → vp_in (jL_isTold_0_155_0 ni li mi mv nx al nc nl kb0 hb0 vk vg p1 p2) 49) : Met l yL_isTold wsL_isTold ({ frames := 9, cells := 1, slots := 6, locals := 152 }) (va_Pc [.ref mh, .ref ak, .ref ah, .ref ac, .ref ae, .ref aq, .ref ag, .int (0 : Int32), .int p1, .int p2] (zI (dC, dI) [(cI, .int), (cJ, .long)] [(mh, .inr (7, [.ref ca, .ref la, .ref sg, .ref pl, .ref rw, .ref tw, .ref ga, .ref pa, .int ni, .int li, .int mi, .int mv, .int nx, .int al, .int nc, .int nl])), (la, .inr (2, [.ref ka, .ref hh])), (ka, .inl (cI, 4, .inl kb0)), (hh, .inl (cI, 4, .inl hb0)), (ak, .inl (cI, 49, .inl vk)), (ag, .inl (cI, 13, .inl vg))] sz)) (va_Qi (fun (r : Int32) (u : (Nat → Int32) × (Nat → Int32)) => r = rL_isTold_0 ni li mi mv nx al nc nl kb0 hb0 vk vg p1 p2 ∧ u.1 = oL_isTold_0_kb0 ni li mi mv nx al nc nl kb0 hb0 vk vg p1 p2 ∧ u.2 = oL_isTold_0_vk ni li mi mv nx al nc nl kb0 hb0 vk vg p1 p2) (fun u => zO (dC, dI) [(cI, .int), (cJ, .long)] [(mh, .inr (7, [.ref ca, .ref la, .ref sg, .ref pl, .ref rw, .ref tw, .ref ga, .ref pa, .int ni, .int li, .int mi, .int mv, .int nx, .int al, .int nc, .int nl])), (la, .inr (2, [.ref ka, .ref hh])), (ka, .inl (cI, 4, .inl u.1)), (hh, .inl (cI, 4, .inl hb0)), (ak, .inl (cI, 49, .inl u.2)), (ag, .inl (cI, 13, .inl vg))] (va_A [(mh, .inr (7, [.ref ca, .ref la, .ref sg, .ref pl, .ref rw, .ref tw, .ref ga, .ref pa, .int ni, .int li, .int mi, .int mv, .int nx, .int al, .int nc, .int nl])), (la, .inr (2, [.ref ka, .ref hh])), (ka, .inl (cI, 4, .inl kb0)), (hh, .inl (cI, 4, .inl hb0)), (ak, .inl (cI, 49, .inl vk)), (ag, .inl (cI, 13, .inl vg))] sz)) (va_A [(mh, .inr (7, [.ref ca, .ref la, .ref sg, .ref pl, .ref rw, .ref tw, .ref ga, .ref pa, .int ni, .int li, .int mi, .int mv, .int nx, .int al, .int nc, .int nl])), (la, .inr (2, [.ref ka, .ref hh])), (ka, .inl (cI, 4, .inl kb0)), (hh, .inl (cI, 4, .inl hb0)), (ak, .inl (cI, 49, .inl vk)), (ag, .inl (cI, 13, .inl vg))] sz)) 1 6 (va_A [(mh, .inr (7, [.ref ca, .ref la, .ref sg, .ref pl, .ref rw, .ref tw, .ref ga, .ref pa, .int ni, .int li, .int mi, .int mv, .int nx, .int al, .int nc, .int nl])), (la, .inr (2, [.ref ka, .ref hh])), (ka, .inl (cI, 4, .inl kb0)), (hh, .inl (cI, 4, .inl hb0)), (ak, .inl (cI, 49, .inl vk)), (ag, .inl (cI, 13, .inl vg))] sz) := by
  refine Met.ofW (cc := cL_isTold) (maxL := 17) (ret := (some .boolean)) (by decide) rfl ?_
  intro p e s m args below meth c s₁ B hml hv
  obtain ⟨rfl, hsz, hP, hK, hD0, hG⟩ := hv
  have hx := B.exec
  have hb := B.bytes
  have hr := B.returns
  have hts := atoms_spec (ws := wsL_isTold) B.pre
  have hown : s.vm.findClass RL = some m.cls := findClass_of_methodNamed B.named
  have hlocks := B.notSynchronized
  subst hsz
  have hD := hD0.self (sz := s.heap.size)
  generalize hAe : va_A [(mh, .inr (7, [.ref ca, .ref la, .ref sg, .ref pl, .ref rw, .ref tw, .ref ga, .ref pa, .int ni, .int li, .int mi, .int mv, .int nx, .int al, .int nc, .int nl])), (la, .inr (2, [.ref ka, .ref hh])), (ka, .inl (cI, 4, .inl kb0)), (hh, .inl (cI, 4, .inl hb0)), (ak, .inl (cI, 49, .inl vk)), (ag, .inl (cI, 13, .inl vg))] s.heap.size = A at hD hG ⊢
  have hA : ∀ q : Nat, s.heap.size ≤ q → A q := fun q h => by rw [← hAe]; exact Or.inr h
  have hS : va_S A s.heap s.heap [] := va_S.rf
  have hP : va_P (dC, dI) vwCl [(mh, .inr (7, [.ref ca, .ref la, .ref sg, .ref pl, .ref rw, .ref tw, .ref ga, .ref pa, .int ni, .int li, .int mi, .int mv, .int nx, .int al, .int nc, .int nl])), (la, .inr (2, [.ref ka, .ref hh])), (ka, .inl (cI, 4, .inl kb0)), (hh, .inl (cI, 4, .inl hb0)), (ak, .inl (cI, 49, .inl vk)), (ag, .inl (cI, 13, .inl vg))] s.heap := hP
  have hl := lv_entry ([.ref mh, .ref ak, .ref ah, .ref ac, .ref ae, .ref aq, .ref ag, .int (0 : Int32), .int p1, .int p2]) (n := 17) (Nat.le_of_ble_eq_true rfl)
  rw [lg_entry_eq]
  generalize (lg_sl ([.ref mh, .ref ak, .ref ah, .ref ac, .ref ae, .ref aq, .ref ag, .int (0 : Int32), .int p1, .int p2]) ++ List.replicate (17 - (lg_sl ([.ref mh, .ref ak, .ref ah, .ref ac, .ref ae, .ref aq, .ref ag, .int (0 : Int32), .int p1, .int p2])).length) Slot.unset).toArray = ls at hl ⊢
  have hl : lv_has ls 17 [(0, .ref mh), (1, .ref ak), (2, .ref ah), (3, .ref ac), (4, .ref ae), (5, .ref aq), (6, .ref ag), (7, .int (0 : Int32)), (8, .int p1), (9, .int p2)] := hl
  refine lv_iload hx hb dL_isTold_0 (lv_at hl 7 rfl) ?_
  refine lv_if_ne (tgt := 207) hx hb dL_isTold_2 (by decide) (fun c_1 => ?_) (fun c_1 => ?_)
  · exact absurd (show (0 : Int32) = 0 from by decide) c_1
  · refine lv_iload hx hb dL_isTold_5 (lv_at hl 8 rfl) ?_
    refine lv_bipush (v := 13) hx hb dL_isTold_7 (by decide) ?_
    refine zvRem hx hb dL_isTold_9 (by decide) ?_
    refine lv_bipush (v := 12) hx hb dL_isTold_10 (by decide) ?_
    refine zNm (fun R9 Q9 hR9 hQ9 => ?_)
    have J25 : ∀ (v25_0 : Int32), v25_0 = (jL_isTold_0_25_0 ni li mi mv nx al nc nl kb0 hb0 vk vg p1 p2) → ∀ (ls : Array Slot), lv_has ls 17 [(0, .ref mh), (1, .ref ak), (2, .ref ah), (3, .ref ac), (4, .ref ae), (5, .ref aq), (6, .ref ag), (7, .int (0 : Int32)), (8, .int p1), (9, .int p2)] → W p l e R9 s m ([.ref mh, .ref ak, .ref ah, .ref ac, .ref ae, .ref aq, .ref ag, .int (0 : Int32), .int p1, .int p2] : List Value).toArray below meth c s.heap [] 0 0 Q9 (F0 m 25 ls [.int v25_0]) := by
      subst hR9; subst hQ9
      intro v25_0 hvv25_0
      rw [hvv25_0]; clear hvv25_0 v25_0
      intro ls hl
      refine lv_istore (lv' := [(10, .int (jL_isTold_0_25_0 ni li mi mv nx al nc nl kb0 hb0 vk vg p1 p2)), (0, .ref mh), (1, .ref ak), (2, .ref ah), (3, .ref ac), (4, .ref ae), (5, .ref aq), (6, .ref ag), (7, .int (0 : Int32)), (8, .int p1), (9, .int p2)]) hx hb dL_isTold_25 hl (by decide) rfl (fun ls hl => ?_)
      refine lv_iload hx hb dL_isTold_27 (lv_at hl 10 rfl) ?_
      refine lv_bipush (v := 9) hx hb dL_isTold_29 (by decide) ?_
      refine zvRem hx hb dL_isTold_31 (by decide) ?_
      refine lv_bipush (v := 8) hx hb dL_isTold_32 (by decide) ?_
      refine zNm (fun R9 Q9 hR9 hQ9 => ?_)
      have J45 : ∀ (v45_0 : Int32), v45_0 = (jL_isTold_0_45_0 ni li mi mv nx al nc nl kb0 hb0 vk vg p1 p2) → ∀ (ls : Array Slot), lv_has ls 17 [(10, .int (jL_isTold_0_25_0 ni li mi mv nx al nc nl kb0 hb0 vk vg p1 p2)), (0, .ref mh), (1, .ref ak), (2, .ref ah), (3, .ref ac), (4, .ref ae), (5, .ref aq), (6, .ref ag), (7, .int (0 : Int32)), (8, .int p1), (9, .int p2)] → W p l e R9 s m ([.ref mh, .ref ak, .ref ah, .ref ac, .ref ae, .ref aq, .ref ag, .int (0 : Int32), .int p1, .int p2] : List Value).toArray below meth c s.heap [] 0 0 Q9 (F0 m 45 ls [.int v45_0]) := by
        subst hR9; subst hQ9
        intro v45_0 hvv45_0
        rw [hvv45_0]; clear hvv45_0 v45_0
        intro ls hl
        refine lv_istore (lv' := [(11, .int (jL_isTold_0_45_0 ni li mi mv nx al nc nl kb0 hb0 vk vg p1 p2)), (10, .int (jL_isTold_0_25_0 ni li mi mv nx al nc nl kb0 hb0 vk vg p1 p2)), (0, .ref mh), (1, .ref ak), (2, .ref ah), (3, .ref ac), (4, .ref ae), (5, .ref aq), (6, .ref ag), (7, .int (0 : Int32)), (8, .int p1), (9, .int p2)]) hx hb dL_isTold_45 hl (by decide) rfl (fun ls hl => ?_)
        refine lv_iload hx hb dL_isTold_47 (lv_at hl 10 rfl) ?_
        refine lv_bipush (v := 13) hx hb dL_isTold_49 (by decide) ?_
        refine lv_idiv hx hb dL_isTold_51 (by decide) ?_
        refine lv_iconst (v := 3) hx hb dL_isTold_52 (by decide) ?_
        refine zvRem hx hb dL_isTold_53 (by decide) ?_
        refine zNm (fun R9 Q9 hR9 hQ9 => ?_)
        have J62 : ∀ (v62_0 : Int32), v62_0 = (jL_isTold_0_62_0 ni li mi mv nx al nc nl kb0 hb0 vk vg p1 p2) → ∀ (ls : Array Slot), lv_has ls 17 [(11, .int (jL_isTold_0_45_0 ni li mi mv nx al nc nl kb0 hb0 vk vg p1 p2)), (10, .int (jL_isTold_0_25_0 ni li mi mv nx al nc nl kb0 hb0 vk vg p1 p2)), (0, .ref mh), (1, .ref ak), (2, .ref ah), (3, .ref ac), (4, .ref ae), (5, .ref aq), (6, .ref ag), (7, .int (0 : Int32)), (8, .int p1), (9, .int p2)] → W p l e R9 s m ([.ref mh, .ref ak, .ref ah, .ref ac, .ref ae, .ref aq, .ref ag, .int (0 : Int32), .int p1, .int p2] : List Value).toArray below meth c s.heap [] 0 0 Q9 (F0 m 62 ls [.int v62_0]) := by
          subst hR9; subst hQ9
          intro v62_0 hvv62_0
          rw [hvv62_0]; clear hvv62_0 v62_0
          intro ls hl
          refine lv_istore (lv' := [(12, .int (jL_isTold_0_62_0 ni li mi mv nx al nc nl kb0 hb0 vk vg p1 p2)), (11, .int (jL_isTold_0_45_0 ni li mi mv nx al nc nl kb0 hb0 vk vg p1 p2)), (10, .int (jL_isTold_0_25_0 ni li mi mv nx al nc nl kb0 hb0 vk vg p1 p2)), (0, .ref mh), (1, .ref ak), (2, .ref ah), (3, .ref ac), (4, .ref ae), (5, .ref aq), (6, .ref ag), (7, .int (0 : Int32)), (8, .int p1), (9, .int p2)]) hx hb dL_isTold_62 hl (by decide) rfl (fun ls hl => ?_)
          refine lv_iload hx hb dL_isTold_64 (lv_at hl 2 rfl) ?_
          refine lv_bipush (v := 6) hx hb dL_isTold_66 (by decide) ?_
          refine zNm (fun R9 Q9 hR9 hQ9 => ?_)
          have J82 : ∀ (v82_0 : Int32), v82_0 = (jL_isTold_0_82_0 ni li mi mv nx al nc nl kb0 hb0 vk vg p1 p2) → ∀ (ls : Array Slot), lv_has ls 17 [(12, .int (jL_isTold_0_62_0 ni li mi mv nx al nc nl kb0 hb0 vk vg p1 p2)), (11, .int (jL_isTold_0_45_0 ni li mi mv nx al nc nl kb0 hb0 vk vg p1 p2)), (10, .int (jL_isTold_0_25_0 ni li mi mv nx al nc nl kb0 hb0 vk vg p1 p2)), (0, .ref mh), (1, .ref ak), (2, .ref ah), (3, .ref ac), (4, .ref ae), (5, .ref aq), (6, .ref ag), (7, .int (0 : Int32)), (8, .int p1), (9, .int p2)] → W p l e R9 s m ([.ref mh, .ref ak, .ref ah, .ref ac, .ref ae, .ref aq, .ref ag, .int (0 : Int32), .int p1, .int p2] : List Value).toArray below meth c s.heap [] 0 0 Q9 (F0 m 82 ls [.int v82_0]) := by
            subst hR9; subst hQ9
            intro v82_0 hvv82_0
            rw [hvv82_0]; clear hvv82_0 v82_0
            intro ls hl
            refine lv_istore (lv' := [(13, .int (jL_isTold_0_82_0 ni li mi mv nx al nc nl kb0 hb0 vk vg p1 p2)), (12, .int (jL_isTold_0_62_0 ni li mi mv nx al nc nl kb0 hb0 vk vg p1 p2)), (11, .int (jL_isTold_0_45_0 ni li mi mv nx al nc nl kb0 hb0 vk vg p1 p2)), (10, .int (jL_isTold_0_25_0 ni li mi mv nx al nc nl kb0 hb0 vk vg p1 p2)), (0, .ref mh), (1, .ref ak), (2, .ref ah), (3, .ref ac), (4, .ref ae), (5, .ref aq), (6, .ref ag), (7, .int (0 : Int32)), (8, .int p1), (9, .int p2)]) hx hb dL_isTold_82 hl (by decide) rfl (fun ls hl => ?_)
            refine lv_iload hx hb dL_isTold_84 (lv_at hl 0 rfl) ?_
            refine zNm (fun R9 Q9 hR9 hQ9 => ?_)
            have J100 : ∀ (v100_0 : Int32), v100_0 = (jL_isTold_0_100_0 ni li mi mv nx al nc nl kb0 hb0 vk vg p1 p2) → ∀ (ls : Array Slot), lv_has ls 17 [(13, .int (jL_isTold_0_82_0 ni li mi mv nx al nc nl kb0 hb0 vk vg p1 p2)), (12, .int (jL_isTold_0_62_0 ni li mi mv nx al nc nl kb0 hb0 vk vg p1 p2)), (11, .int (jL_isTold_0_45_0 ni li mi mv nx al nc nl kb0 hb0 vk vg p1 p2)), (10, .int (jL_isTold_0_25_0 ni li mi mv nx al nc nl kb0 hb0 vk vg p1 p2)), (0, .ref mh), (1, .ref ak), (2, .ref ah), (3, .ref ac), (4, .ref ae), (5, .ref aq), (6, .ref ag), (7, .int (0 : Int32)), (8, .int p1), (9, .int p2)] → W p l e R9 s m ([.ref mh, .ref ak, .ref ah, .ref ac, .ref ae, .ref aq, .ref ag, .int (0 : Int32), .int p1, .int p2] : List Value).toArray below meth c s.heap [] 0 0 Q9 (F0 m 100 ls [.int v100_0]) := by
              subst hR9; subst hQ9
              intro v100_0 hvv100_0
              rw [hvv100_0]; clear hvv100_0 v100_0
              intro ls hl
              refine lv_istore (lv' := [(14, .int (jL_isTold_0_100_0 ni li mi mv nx al nc nl kb0 hb0 vk vg p1 p2)), (13, .int (jL_isTold_0_82_0 ni li mi mv nx al nc nl kb0 hb0 vk vg p1 p2)), (12, .int (jL_isTold_0_62_0 ni li mi mv nx al nc nl kb0 hb0 vk vg p1 p2)), (11, .int (jL_isTold_0_45_0 ni li mi mv nx al nc nl kb0 hb0 vk vg p1 p2)), (10, .int (jL_isTold_0_25_0 ni li mi mv nx al nc nl kb0 hb0 vk vg p1 p2)), (0, .ref mh), (1, .ref ak), (2, .ref ah), (3, .ref ac), (4, .ref ae), (5, .ref aq), (6, .ref ag), (7, .int (0 : Int32)), (8, .int p1), (9, .int p2)]) hx hb dL_isTold_100 hl (by decide) rfl (fun ls hl => ?_)
              refine lv_aload_n hx hb dL_isTold_102 rfl (lv_at hl 6 rfl) ?_
              refine lv_iload hx hb dL_isTold_103 (lv_at hl 0 rfl) ?_
              refine va_iald hx hb hK hP 4 0 rfl rfl (i := (jL_isTold_0_100_0 ni li mi mv nx al nc nl kb0 hb0 vk vg p1 p2)) (hi105 c_1) dL_isTold_105 ?_
              refine lv_istore (lv' := [(15, .int (vk ((jL_isTold_0_100_0 ni li mi mv nx al nc nl kb0 hb0 vk vg p1 p2)).toNatClampNeg)), (14, .int (jL_isTold_0_100_0 ni li mi mv nx al nc nl kb0 hb0 vk vg p1 p2)), (13, .int (jL_isTold_0_82_0 ni li mi mv nx al nc nl kb0 hb0 vk vg p1 p2)), (12, .int (jL_isTold_0_62_0 ni li mi mv nx al nc nl kb0 hb0 vk vg p1 p2)), (11, .int (jL_isTold_0_45_0 ni li mi mv nx al nc nl kb0 hb0 vk vg p1 p2)), (10, .int (jL_isTold_0_25_0 ni li mi mv nx al nc nl kb0 hb0 vk vg p1 p2)), (0, .ref mh), (1, .ref ak), (2, .ref ah), (3, .ref ac), (4, .ref ae), (5, .ref aq), (6, .ref ag), (7, .int (0 : Int32)), (8, .int p1), (9, .int p2)]) hx hb dL_isTold_106 hl (by decide) rfl (fun ls hl => ?_)
              refine lv_aload_n hx hb dL_isTold_108 rfl (lv_at hl 7 rfl) ?_
              refine lv_iload hx hb dL_isTold_109 (lv_at hl 2 rfl) ?_
              refine zNm (fun R9 Q9 hR9 hQ9 => ?_)
              have J121 : ∀ (v121_0 : Int32), v121_0 = (jL_isTold_0_121_0 ni li mi mv nx al nc nl kb0 hb0 vk vg p1 p2) → ∀ (ls : Array Slot), lv_has ls 17 [(15, .int (vk ((jL_isTold_0_100_0 ni li mi mv nx al nc nl kb0 hb0 vk vg p1 p2)).toNatClampNeg)), (14, .int (jL_isTold_0_100_0 ni li mi mv nx al nc nl kb0 hb0 vk vg p1 p2)), (13, .int (jL_isTold_0_82_0 ni li mi mv nx al nc nl kb0 hb0 vk vg p1 p2)), (12, .int (jL_isTold_0_62_0 ni li mi mv nx al nc nl kb0 hb0 vk vg p1 p2)), (11, .int (jL_isTold_0_45_0 ni li mi mv nx al nc nl kb0 hb0 vk vg p1 p2)), (10, .int (jL_isTold_0_25_0 ni li mi mv nx al nc nl kb0 hb0 vk vg p1 p2)), (0, .ref mh), (1, .ref ak), (2, .ref ah), (3, .ref ac), (4, .ref ae), (5, .ref aq), (6, .ref ag), (7, .int (0 : Int32)), (8, .int p1), (9, .int p2)] → W p l e R9 s m ([.ref mh, .ref ak, .ref ah, .ref ac, .ref ae, .ref aq, .ref ag, .int (0 : Int32), .int p1, .int p2] : List Value).toArray below meth c s.heap [] 0 0 Q9 (F0 m 121 ls [.int v121_0, .ref ak]) := by
                subst hR9; subst hQ9
                intro v121_0 hvv121_0
                rw [hvv121_0]; clear hvv121_0 v121_0
                intro ls hl
                refine lv_iload hx hb dL_isTold_121 (lv_at hl 3 rfl) ?_
                refine zNm (fun R9 Q9 hR9 hQ9 => ?_)
                have J131 : ∀ (v131_0 : Int32), v131_0 = (jL_isTold_0_131_0 ni li mi mv nx al nc nl kb0 hb0 vk vg p1 p2) → ∀ (ls : Array Slot), lv_has ls 17 [(15, .int (vk ((jL_isTold_0_100_0 ni li mi mv nx al nc nl kb0 hb0 vk vg p1 p2)).toNatClampNeg)), (14, .int (jL_isTold_0_100_0 ni li mi mv nx al nc nl kb0 hb0 vk vg p1 p2)), (13, .int (jL_isTold_0_82_0 ni li mi mv nx al nc nl kb0 hb0 vk vg p1 p2)), (12, .int (jL_isTold_0_62_0 ni li mi mv nx al nc nl kb0 hb0 vk vg p1 p2)), (11, .int (jL_isTold_0_45_0 ni li mi mv nx al nc nl kb0 hb0 vk vg p1 p2)), (10, .int (jL_isTold_0_25_0 ni li mi mv nx al nc nl kb0 hb0 vk vg p1 p2)), (0, .ref mh), (1, .ref ak), (2, .ref ah), (3, .ref ac), (4, .ref ae), (5, .ref aq), (6, .ref ag), (7, .int (0 : Int32)), (8, .int p1), (9, .int p2)] → W p l e R9 s m ([.ref mh, .ref ak, .ref ah, .ref ac, .ref ae, .ref aq, .ref ag, .int (0 : Int32), .int p1, .int p2] : List Value).toArray below meth c s.heap [] 0 0 Q9 (F0 m 131 ls [.int v131_0, .int (jL_isTold_0_121_0 ni li mi mv nx al nc nl kb0 hb0 vk vg p1 p2), .ref ak]) := by
                  subst hR9; subst hQ9
                  intro v131_0 hvv131_0
                  rw [hvv131_0]; clear hvv131_0 v131_0
                  intro ls hl
                  refine va_iast hx hb hK hP hD hS 4 0 rfl rfl (i := (jL_isTold_0_121_0 ni li mi mv nx al nc nl kb0 hb0 vk vg p1 p2)) (x := (jL_isTold_0_131_0 ni li mi mv nx al nc nl kb0 hb0 vk vg p1 p2)) (hi131 c_1) dL_isTold_131 (fun H locs hP hD hS => ?_)
                  have hP : va_P (dC, dI) vwCl [(mh, .inr (7, [.ref ca, .ref la, .ref sg, .ref pl, .ref rw, .ref tw, .ref ga, .ref pa, .int ni, .int li, .int mi, .int mv, .int nx, .int al, .int nc, .int nl])), (la, .inr (2, [.ref ka, .ref hh])), (ka, .inl (cI, 4, .inl kb0)), (hh, .inl (cI, 4, .inl hb0)), (ak, .inl (cI, 49, .inl (upd vk ((jL_isTold_0_121_0 ni li mi mv nx al nc nl kb0 hb0 vk vg p1 p2)).toNatClampNeg (jL_isTold_0_131_0 ni li mi mv nx al nc nl kb0 hb0 vk vg p1 p2)))), (ag, .inl (cI, 13, .inl vg))] H := hP
                  have hD : va_D A [(mh, .inr (7, [.ref ca, .ref la, .ref sg, .ref pl, .ref rw, .ref tw, .ref ga, .ref pa, .int ni, .int li, .int mi, .int mv, .int nx, .int al, .int nc, .int nl])), (la, .inr (2, [.ref ka, .ref hh])), (ka, .inl (cI, 4, .inl kb0)), (hh, .inl (cI, 4, .inl hb0)), (ak, .inl (cI, 49, .inl (upd vk ((jL_isTold_0_121_0 ni li mi mv nx al nc nl kb0 hb0 vk vg p1 p2)).toNatClampNeg (jL_isTold_0_131_0 ni li mi mv nx al nc nl kb0 hb0 vk vg p1 p2)))), (ag, .inl (cI, 13, .inl vg))] := hD
                  refine lv_aload_n hx hb dL_isTold_132 rfl (lv_at hl 7 rfl) ?_
                  refine lv_iload hx hb dL_isTold_133 (lv_at hl 2 rfl) ?_
                  refine zNm (fun R9 Q9 hR9 hQ9 => ?_)
                  have J155 : ∀ (v155_0 : Int32), v155_0 = (jL_isTold_0_155_0 ni li mi mv nx al nc nl kb0 hb0 vk vg p1 p2) → ∀ (H : Heap) (locs : List Loc) (ls : Array Slot), va_P (dC, dI) vwCl [(mh, .inr (7, [.ref ca, .ref la, .ref sg, .ref pl, .ref rw, .ref tw, .ref ga, .ref pa, .int ni, .int li, .int mi, .int mv, .int nx, .int al, .int nc, .int nl])), (la, .inr (2, [.ref ka, .ref hh])), (ka, .inl (cI, 4, .inl kb0)), (hh, .inl (cI, 4, .inl hb0)), (ak, .inl (cI, 49, .inl (upd vk ((jL_isTold_0_121_0 ni li mi mv nx al nc nl kb0 hb0 vk vg p1 p2)).toNatClampNeg (jL_isTold_0_131_0 ni li mi mv nx al nc nl kb0 hb0 vk vg p1 p2)))), (ag, .inl (cI, 13, .inl vg))] H → va_D A [(mh, .inr (7, [.ref ca, .ref la, .ref sg, .ref pl, .ref rw, .ref tw, .ref ga, .ref pa, .int ni, .int li, .int mi, .int mv, .int nx, .int al, .int nc, .int nl])), (la, .inr (2, [.ref ka, .ref hh])), (ka, .inl (cI, 4, .inl kb0)), (hh, .inl (cI, 4, .inl hb0)), (ak, .inl (cI, 49, .inl (upd vk ((jL_isTold_0_121_0 ni li mi mv nx al nc nl kb0 hb0 vk vg p1 p2)).toNatClampNeg (jL_isTold_0_131_0 ni li mi mv nx al nc nl kb0 hb0 vk vg p1 p2)))), (ag, .inl (cI, 13, .inl vg))] → va_S A s.heap H locs → lv_has ls 17 [(15, .int (vk ((jL_isTold_0_100_0 ni li mi mv nx al nc nl kb0 hb0 vk vg p1 p2)).toNatClampNeg)), (14, .int (jL_isTold_0_100_0 ni li mi mv nx al nc nl kb0 hb0 vk vg p1 p2)), (13, .int (jL_isTold_0_82_0 ni li mi mv nx al nc nl kb0 hb0 vk vg p1 p2)), (12, .int (jL_isTold_0_62_0 ni li mi mv nx al nc nl kb0 hb0 vk vg p1 p2)), (11, .int (jL_isTold_0_45_0 ni li mi mv nx al nc nl kb0 hb0 vk vg p1 p2)), (10, .int (jL_isTold_0_25_0 ni li mi mv nx al nc nl kb0 hb0 vk vg p1 p2)), (0, .ref mh), (1, .ref ak), (2, .ref ah), (3, .ref ac), (4, .ref ae), (5, .ref aq), (6, .ref ag), (7, .int (0 : Int32)), (8, .int p1), (9, .int p2)] → W p l e R9 s m ([.ref mh, .ref ak, .ref ah, .ref ac, .ref ae, .ref aq, .ref ag, .int (0 : Int32), .int p1, .int p2] : List Value).toArray below meth c H locs 0 0 Q9 (F0 m 155 ls [.int v155_0, .ref ak]) := by
                    subst hR9; subst hQ9
                    intro v155_0 hvv155_0
                    rw [hvv155_0]; clear hvv155_0 v155_0
                    intro H locs ls hP hD hS hl
                    refine lv_iload hx hb dL_isTold_155 (lv_at hl 3 rfl) ?_
                    refine zNm (fun R9 Q9 hR9 hQ9 => ?_)
                    have J165 : ∀ (v165_0 : Int32), v165_0 = (jL_isTold_0_165_0 ni li mi mv nx al nc nl kb0 hb0 vk vg p1 p2) → ∀ (H : Heap) (locs : List Loc) (ls : Array Slot), va_P (dC, dI) vwCl [(mh, .inr (7, [.ref ca, .ref la, .ref sg, .ref pl, .ref rw, .ref tw, .ref ga, .ref pa, .int ni, .int li, .int mi, .int mv, .int nx, .int al, .int nc, .int nl])), (la, .inr (2, [.ref ka, .ref hh])), (ka, .inl (cI, 4, .inl kb0)), (hh, .inl (cI, 4, .inl hb0)), (ak, .inl (cI, 49, .inl (upd vk ((jL_isTold_0_121_0 ni li mi mv nx al nc nl kb0 hb0 vk vg p1 p2)).toNatClampNeg (jL_isTold_0_131_0 ni li mi mv nx al nc nl kb0 hb0 vk vg p1 p2)))), (ag, .inl (cI, 13, .inl vg))] H → va_D A [(mh, .inr (7, [.ref ca, .ref la, .ref sg, .ref pl, .ref rw, .ref tw, .ref ga, .ref pa, .int ni, .int li, .int mi, .int mv, .int nx, .int al, .int nc, .int nl])), (la, .inr (2, [.ref ka, .ref hh])), (ka, .inl (cI, 4, .inl kb0)), (hh, .inl (cI, 4, .inl hb0)), (ak, .inl (cI, 49, .inl (upd vk ((jL_isTold_0_121_0 ni li mi mv nx al nc nl kb0 hb0 vk vg p1 p2)).toNatClampNeg (jL_isTold_0_131_0 ni li mi mv nx al nc nl kb0 hb0 vk vg p1 p2)))), (ag, .inl (cI, 13, .inl vg))] → va_S A s.heap H locs → lv_has ls 17 [(15, .int (vk ((jL_isTold_0_100_0 ni li mi mv nx al nc nl kb0 hb0 vk vg p1 p2)).toNatClampNeg)), (14, .int (jL_isTold_0_100_0 ni li mi mv nx al nc nl kb0 hb0 vk vg p1 p2)), (13, .int (jL_isTold_0_82_0 ni li mi mv nx al nc nl kb0 hb0 vk vg p1 p2)), (12, .int (jL_isTold_0_62_0 ni li mi mv nx al nc nl kb0 hb0 vk vg p1 p2)), (11, .int (jL_isTold_0_45_0 ni li mi mv nx al nc nl kb0 hb0 vk vg p1 p2)), (10, .int (jL_isTold_0_25_0 ni li mi mv nx al nc nl kb0 hb0 vk vg p1 p2)), (0, .ref mh), (1, .ref ak), (2, .ref ah), (3, .ref ac), (4, .ref ae), (5, .ref aq), (6, .ref ag), (7, .int (0 : Int32)), (8, .int p1), (9, .int p2)] → W p l e R9 s m ([.ref mh, .ref ak, .ref ah, .ref ac, .ref ae, .ref aq, .ref ag, .int (0 : Int32), .int p1, .int p2] : List Value).toArray below meth c H locs 0 0 Q9 (F0 m 165 ls [.int v165_0, .int (jL_isTold_0_155_0 ni li mi mv nx al nc nl kb0 hb0 vk vg p1 p2), .ref ak]) := by
                      subst hR9; subst hQ9
                      intro v165_0 hvv165_0
                      rw [hvv165_0]; clear hvv165_0 v165_0
                      intro H locs ls hP hD hS hl
                      refine va_iast hx hb hK hP hD hS 4 0 rfl rfl (i := (jL_isTold_0_155_0 ni li mi mv nx al nc nl kb0 hb0 vk vg p1 p2)) (x := (jL_isTold_0_165_0 ni li mi mv nx al nc nl kb0 hb0 vk vg p1 p2)) (hi165 c_1) dL_isTold_165 (fun H locs hP hD hS => ?_)
                      have hP : va_P (dC, dI) vwCl [(mh, .inr (7, [.ref ca, .ref la, .ref sg, .ref pl, .ref rw, .ref tw, .ref ga, .ref pa, .int ni, .int li, .int mi, .int mv, .int nx, .int al, .int nc, .int nl])), (la, .inr (2, [.ref ka, .ref hh])), (ka, .inl (cI, 4, .inl kb0)), (hh, .inl (cI, 4, .inl hb0)), (ak, .inl (cI, 49, .inl (upd (upd vk ((jL_isTold_0_121_0 ni li mi mv nx al nc nl kb0 hb0 vk vg p1 p2)).toNatClampNeg (jL_isTold_0_131_0 ni li mi mv nx al nc nl kb0 hb0 vk vg p1 p2)) ((jL_isTold_0_155_0 ni li mi mv nx al nc nl kb0 hb0 vk vg p1 p2)).toNatClampNeg (jL_isTold_0_165_0 ni li mi mv nx al nc nl kb0 hb0 vk vg p1 p2)))), (ag, .inl (cI, 13, .inl vg))] H := hP
                      have hD : va_D A [(mh, .inr (7, [.ref ca, .ref la, .ref sg, .ref pl, .ref rw, .ref tw, .ref ga, .ref pa, .int ni, .int li, .int mi, .int mv, .int nx, .int al, .int nc, .int nl])), (la, .inr (2, [.ref ka, .ref hh])), (ka, .inl (cI, 4, .inl kb0)), (hh, .inl (cI, 4, .inl hb0)), (ak, .inl (cI, 49, .inl (upd (upd vk ((jL_isTold_0_121_0 ni li mi mv nx al nc nl kb0 hb0 vk vg p1 p2)).toNatClampNeg (jL_isTold_0_131_0 ni li mi mv nx al nc nl kb0 hb0 vk vg p1 p2)) ((jL_isTold_0_155_0 ni li mi mv nx al nc nl kb0 hb0 vk vg p1 p2)).toNatClampNeg (jL_isTold_0_165_0 ni li mi mv nx al nc nl kb0 hb0 vk vg p1 p2)))), (ag, .inl (cI, 13, .inl vg))] := hD
                      refine lv_aload_n hx hb dL_isTold_166 rfl (lv_at hl 6 rfl) ?_
                      refine lv_iconst (v := 0) hx hb dL_isTold_167 (by decide) ?_
                      refine lv_iload hx hb dL_isTold_168 (lv_at hl 5 rfl) ?_
                      refine lv_iload hx hb dL_isTold_170 (lv_at hl 4 rfl) ?_
                      refine lv_iload hx hb dL_isTold_172 (lv_at hl 3 rfl) ?_
                      refine zNm (fun R9 Q9 hR9 hQ9 => ?_)
                      have J182 : ∀ (v182_0 : Int32), v182_0 = (jL_isTold_0_182_0 ni li mi mv nx al nc nl kb0 hb0 vk vg p1 p2) → ∀ (H : Heap) (locs : List Loc) (ls : Array Slot), va_P (dC, dI) vwCl [(mh, .inr (7, [.ref ca, .ref la, .ref sg, .ref pl, .ref rw, .ref tw, .ref ga, .ref pa, .int ni, .int li, .int mi, .int mv, .int nx, .int al, .int nc, .int nl])), (la, .inr (2, [.ref ka, .ref hh])), (ka, .inl (cI, 4, .inl kb0)), (hh, .inl (cI, 4, .inl hb0)), (ak, .inl (cI, 49, .inl (upd (upd vk ((jL_isTold_0_121_0 ni li mi mv nx al nc nl kb0 hb0 vk vg p1 p2)).toNatClampNeg (jL_isTold_0_131_0 ni li mi mv nx al nc nl kb0 hb0 vk vg p1 p2)) ((jL_isTold_0_155_0 ni li mi mv nx al nc nl kb0 hb0 vk vg p1 p2)).toNatClampNeg (jL_isTold_0_165_0 ni li mi mv nx al nc nl kb0 hb0 vk vg p1 p2)))), (ag, .inl (cI, 13, .inl vg))] H → va_D A [(mh, .inr (7, [.ref ca, .ref la, .ref sg, .ref pl, .ref rw, .ref tw, .ref ga, .ref pa, .int ni, .int li, .int mi, .int mv, .int nx, .int al, .int nc, .int nl])), (la, .inr (2, [.ref ka, .ref hh])), (ka, .inl (cI, 4, .inl kb0)), (hh, .inl (cI, 4, .inl hb0)), (ak, .inl (cI, 49, .inl (upd (upd vk ((jL_isTold_0_121_0 ni li mi mv nx al nc nl kb0 hb0 vk vg p1 p2)).toNatClampNeg (jL_isTold_0_131_0 ni li mi mv nx al nc nl kb0 hb0 vk vg p1 p2)) ((jL_isTold_0_155_0 ni li mi mv nx al nc nl kb0 hb0 vk vg p1 p2)).toNatClampNeg (jL_isTold_0_165_0 ni li mi mv nx al nc nl kb0 hb0 vk vg p1 p2)))), (ag, .inl (cI, 13, .inl vg))] → va_S A s.heap H locs → lv_has ls 17 [(15, .int (vk ((jL_isTold_0_100_0 ni li mi mv nx al nc nl kb0 hb0 vk vg p1 p2)).toNatClampNeg)), (14, .int (jL_isTold_0_100_0 ni li mi mv nx al nc nl kb0 hb0 vk vg p1 p2)), (13, .int (jL_isTold_0_82_0 ni li mi mv nx al nc nl kb0 hb0 vk vg p1 p2)), (12, .int (jL_isTold_0_62_0 ni li mi mv nx al nc nl kb0 hb0 vk vg p1 p2)), (11, .int (jL_isTold_0_45_0 ni li mi mv nx al nc nl kb0 hb0 vk vg p1 p2)), (10, .int (jL_isTold_0_25_0 ni li mi mv nx al nc nl kb0 hb0 vk vg p1 p2)), (0, .ref mh), (1, .ref ak), (2, .ref ah), (3, .ref ac), (4, .ref ae), (5, .ref aq), (6, .ref ag), (7, .int (0 : Int32)), (8, .int p1), (9, .int p2)] → W p l e R9 s m ([.ref mh, .ref ak, .ref ah, .ref ac, .ref ae, .ref aq, .ref ag, .int (0 : Int32), .int p1, .int p2] : List Value).toArray below meth c H locs 0 0 Q9 (F0 m 182 ls [.int v182_0, .int (jL_isTold_0_45_0 ni li mi mv nx al nc nl kb0 hb0 vk vg p1 p2), .int (jL_isTold_0_25_0 ni li mi mv nx al nc nl kb0 hb0 vk vg p1 p2), .int (0 : Int32), .ref mh]) := by
                        subst hR9; subst hQ9
                        intro v182_0 hvv182_0
                        rw [hvv182_0]; clear hvv182_0 v182_0
                        intro H locs ls hP hD hS hl
                        refine lv_iconst (v := 0) hx hb dL_isTold_182 (by decide) ?_
                        refine zkI (wr := [(ak, .inl (cI, 49, .inl (upd (upd vk ((jL_isTold_0_121_0 ni li mi mv nx al nc nl kb0 hb0 vk vg p1 p2)).toNatClampNeg (jL_isTold_0_131_0 ni li mi mv nx al nc nl kb0 hb0 vk vg p1 p2)) ((jL_isTold_0_155_0 ni li mi mv nx al nc nl kb0 hb0 vk vg p1 p2)).toNatClampNeg (jL_isTold_0_165_0 ni li mi mv nx al nc nl kb0 hb0 vk vg p1 p2)))), (ag, .inl (cI, 13, .inl vg))]) (r0 := (rL_does_0 ni li mi mv nx al nc nl kb0 hb0 (jL_isTold_0_25_0 ni li mi mv nx al nc nl kb0 hb0 vk vg p1 p2) (jL_isTold_0_45_0 ni li mi mv nx al nc nl kb0 hb0 vk vg p1 p2) (jL_isTold_0_182_0 ni li mi mv nx al nc nl kb0 hb0 vk vg p1 p2) (0 : Int32))) (u0 := ((oL_does_0_kb0 ni li mi mv nx al nc nl kb0 hb0 (jL_isTold_0_25_0 ni li mi mv nx al nc nl kb0 hb0 vk vg p1 p2) (jL_isTold_0_45_0 ni li mi mv nx al nc nl kb0 hb0 vk vg p1 p2) (jL_isTold_0_182_0 ni li mi mv nx al nc nl kb0 hb0 vk vg p1 p2) (0 : Int32)))) (vx_runSW (As := [.ref mh, .int (0 : Int32), .int (jL_isTold_0_25_0 ni li mi mv nx al nc nl kb0 hb0 vk vg p1 p2), .int (jL_isTold_0_45_0 ni li mi mv nx al nc nl kb0 hb0 vk vg p1 p2), .int (jL_isTold_0_182_0 ni li mi mv nx al nc nl kb0 hb0 vk vg p1 p2), .int (0 : Int32)]) (rest := []) ⟨hx, hb, hml, hown, hts⟩ (c_L_does_0 l hfl dC dI cI cJ mh la ka hh ca sg pl rw tw ga pa H.size ni li mi mv nx al nc nl kb0 hb0 (jL_isTold_0_25_0 ni li mi mv nx al nc nl kb0 hb0 vk vg p1 p2) (jL_isTold_0_45_0 ni li mi mv nx al nc nl kb0 hb0 vk vg p1 p2) (jL_isTold_0_182_0 ni li mi mv nx al nc nl kb0 hb0 vk vg p1 p2) (0 : Int32) ) (vx_cwSW 6 hts gL_isTold_L_does rfl rfl rfl (by decide +kernel) ⟨Nat.le_of_ble_eq_true rfl, Nat.le_of_ble_eq_true rfl⟩) (zpS hK hP hD hS hA hG [0, 1, 2, 3] (by decide) rfl) rfl rfl hl.1 rfl (lv_room (Nat.le_of_ble_eq_true rfl)) dL_isTold_183 ⟨Nat.le_of_ble_eq_true rfl, Nat.le_of_ble_eq_true rfl⟩) (fun r u h => ⟨h.1, h.2⟩) hP hD hS hA [0, 1, 2, 3] [4, 5] rfl rfl (by decide) (by decide) (fun H locs hP hD hS => ?_)
                        try dsimp only [List.cons_append, List.nil_append] at hP hD
                        have hP : va_P (dC, dI) vwCl [(ak, .inl (cI, 49, .inl (upd (upd vk ((jL_isTold_0_121_0 ni li mi mv nx al nc nl kb0 hb0 vk vg p1 p2)).toNatClampNeg (jL_isTold_0_131_0 ni li mi mv nx al nc nl kb0 hb0 vk vg p1 p2)) ((jL_isTold_0_155_0 ni li mi mv nx al nc nl kb0 hb0 vk vg p1 p2)).toNatClampNeg (jL_isTold_0_165_0 ni li mi mv nx al nc nl kb0 hb0 vk vg p1 p2)))), (ag, .inl (cI, 13, .inl vg)), (mh, .inr (7, [.ref ca, .ref la, .ref sg, .ref pl, .ref rw, .ref tw, .ref ga, .ref pa, .int ni, .int li, .int mi, .int mv, .int nx, .int al, .int nc, .int nl])), (la, .inr (2, [.ref ka, .ref hh])), (ka, .inl (cI, 4, .inl (oL_does_0_kb0 ni li mi mv nx al nc nl kb0 hb0 (jL_isTold_0_25_0 ni li mi mv nx al nc nl kb0 hb0 vk vg p1 p2) (jL_isTold_0_45_0 ni li mi mv nx al nc nl kb0 hb0 vk vg p1 p2) (jL_isTold_0_182_0 ni li mi mv nx al nc nl kb0 hb0 vk vg p1 p2) (0 : Int32)))), (hh, .inl (cI, 4, .inl hb0))] H := hP
                        have hD : va_D A [(ak, .inl (cI, 49, .inl (upd (upd vk ((jL_isTold_0_121_0 ni li mi mv nx al nc nl kb0 hb0 vk vg p1 p2)).toNatClampNeg (jL_isTold_0_131_0 ni li mi mv nx al nc nl kb0 hb0 vk vg p1 p2)) ((jL_isTold_0_155_0 ni li mi mv nx al nc nl kb0 hb0 vk vg p1 p2)).toNatClampNeg (jL_isTold_0_165_0 ni li mi mv nx al nc nl kb0 hb0 vk vg p1 p2)))), (ag, .inl (cI, 13, .inl vg)), (mh, .inr (7, [.ref ca, .ref la, .ref sg, .ref pl, .ref rw, .ref tw, .ref ga, .ref pa, .int ni, .int li, .int mi, .int mv, .int nx, .int al, .int nc, .int nl])), (la, .inr (2, [.ref ka, .ref hh])), (ka, .inl (cI, 4, .inl (oL_does_0_kb0 ni li mi mv nx al nc nl kb0 hb0 (jL_isTold_0_25_0 ni li mi mv nx al nc nl kb0 hb0 vk vg p1 p2) (jL_isTold_0_45_0 ni li mi mv nx al nc nl kb0 hb0 vk vg p1 p2) (jL_isTold_0_182_0 ni li mi mv nx al nc nl kb0 hb0 vk vg p1 p2) (0 : Int32)))), (hh, .inl (cI, 4, .inl hb0))] := hD
                        refine W.widen (k := 1) (n := 6) (by decide) (by decide) ?_
                        refine lv_iload hx hb dL_isTold_186 (lv_at hl 2 rfl) ?_
                        refine zNm (fun R9 Q9 hR9 hQ9 => ?_)
                        have J198 : ∀ (v198_0 : Int32), v198_0 = (jL_isTold_0_198_0 ni li mi mv nx al nc nl kb0 hb0 vk vg p1 p2) → ∀ (H : Heap) (locs : List Loc) (ls : Array Slot), va_P (dC, dI) vwCl [(ak, .inl (cI, 49, .inl (upd (upd vk ((jL_isTold_0_121_0 ni li mi mv nx al nc nl kb0 hb0 vk vg p1 p2)).toNatClampNeg (jL_isTold_0_131_0 ni li mi mv nx al nc nl kb0 hb0 vk vg p1 p2)) ((jL_isTold_0_155_0 ni li mi mv nx al nc nl kb0 hb0 vk vg p1 p2)).toNatClampNeg (jL_isTold_0_165_0 ni li mi mv nx al nc nl kb0 hb0 vk vg p1 p2)))), (ag, .inl (cI, 13, .inl vg)), (mh, .inr (7, [.ref ca, .ref la, .ref sg, .ref pl, .ref rw, .ref tw, .ref ga, .ref pa, .int ni, .int li, .int mi, .int mv, .int nx, .int al, .int nc, .int nl])), (la, .inr (2, [.ref ka, .ref hh])), (ka, .inl (cI, 4, .inl (oL_does_0_kb0 ni li mi mv nx al nc nl kb0 hb0 (jL_isTold_0_25_0 ni li mi mv nx al nc nl kb0 hb0 vk vg p1 p2) (jL_isTold_0_45_0 ni li mi mv nx al nc nl kb0 hb0 vk vg p1 p2) (jL_isTold_0_182_0 ni li mi mv nx al nc nl kb0 hb0 vk vg p1 p2) (0 : Int32)))), (hh, .inl (cI, 4, .inl hb0))] H → va_D A [(ak, .inl (cI, 49, .inl (upd (upd vk ((jL_isTold_0_121_0 ni li mi mv nx al nc nl kb0 hb0 vk vg p1 p2)).toNatClampNeg (jL_isTold_0_131_0 ni li mi mv nx al nc nl kb0 hb0 vk vg p1 p2)) ((jL_isTold_0_155_0 ni li mi mv nx al nc nl kb0 hb0 vk vg p1 p2)).toNatClampNeg (jL_isTold_0_165_0 ni li mi mv nx al nc nl kb0 hb0 vk vg p1 p2)))), (ag, .inl (cI, 13, .inl vg)), (mh, .inr (7, [.ref ca, .ref la, .ref sg, .ref pl, .ref rw, .ref tw, .ref ga, .ref pa, .int ni, .int li, .int mi, .int mv, .int nx, .int al, .int nc, .int nl])), (la, .inr (2, [.ref ka, .ref hh])), (ka, .inl (cI, 4, .inl (oL_does_0_kb0 ni li mi mv nx al nc nl kb0 hb0 (jL_isTold_0_25_0 ni li mi mv nx al nc nl kb0 hb0 vk vg p1 p2) (jL_isTold_0_45_0 ni li mi mv nx al nc nl kb0 hb0 vk vg p1 p2) (jL_isTold_0_182_0 ni li mi mv nx al nc nl kb0 hb0 vk vg p1 p2) (0 : Int32)))), (hh, .inl (cI, 4, .inl hb0))] → va_S A s.heap H locs → lv_has ls 17 [(15, .int (vk ((jL_isTold_0_100_0 ni li mi mv nx al nc nl kb0 hb0 vk vg p1 p2)).toNatClampNeg)), (14, .int (jL_isTold_0_100_0 ni li mi mv nx al nc nl kb0 hb0 vk vg p1 p2)), (13, .int (jL_isTold_0_82_0 ni li mi mv nx al nc nl kb0 hb0 vk vg p1 p2)), (12, .int (jL_isTold_0_62_0 ni li mi mv nx al nc nl kb0 hb0 vk vg p1 p2)), (11, .int (jL_isTold_0_45_0 ni li mi mv nx al nc nl kb0 hb0 vk vg p1 p2)), (10, .int (jL_isTold_0_25_0 ni li mi mv nx al nc nl kb0 hb0 vk vg p1 p2)), (0, .ref mh), (1, .ref ak), (2, .ref ah), (3, .ref ac), (4, .ref ae), (5, .ref aq), (6, .ref ag), (7, .int (0 : Int32)), (8, .int p1), (9, .int p2)] → W p l e R9 s m ([.ref mh, .ref ak, .ref ah, .ref ac, .ref ae, .ref aq, .ref ag, .int (0 : Int32), .int p1, .int p2] : List Value).toArray below meth c H locs 1 6 Q9 (F0 m 198 ls [.int v198_0, .int (rL_does_0 ni li mi mv nx al nc nl kb0 hb0 (jL_isTold_0_25_0 ni li mi mv nx al nc nl kb0 hb0 vk vg p1 p2) (jL_isTold_0_45_0 ni li mi mv nx al nc nl kb0 hb0 vk vg p1 p2) (jL_isTold_0_182_0 ni li mi mv nx al nc nl kb0 hb0 vk vg p1 p2) (0 : Int32))]) := by
                          subst hR9; subst hQ9
                          intro v198_0 hvv198_0
                          rw [hvv198_0]; clear hvv198_0 v198_0
                          intro H locs ls hP hD hS hl
                          refine lv_icmp_ne (tgt := 205) hx hb dL_isTold_198 (by decide) (fun c_2 => ?_) (fun c_2 => ?_)
                          · refine lv_iconst (v := 0) hx hb dL_isTold_205 (by decide) ?_
                            refine W.widen (k := 1) (n := 6) (by decide) (by decide) ?_
                            exact W.zret (v := (0 : Int32)) hx hb hr (zNar (Or.inl rfl)) (fun t ht hW => ⟨⟨(0 : Int32), ((oL_does_0_kb0 ni li mi mv nx al nc nl kb0 hb0 (jL_isTold_0_25_0 ni li mi mv nx al nc nl kb0 hb0 vk vg p1 p2) (jL_isTold_0_45_0 ni li mi mv nx al nc nl kb0 hb0 vk vg p1 p2) (jL_isTold_0_182_0 ni li mi mv nx al nc nl kb0 hb0 vk vg p1 p2) (0 : Int32)), (upd (upd vk ((jL_isTold_0_121_0 ni li mi mv nx al nc nl kb0 hb0 vk vg p1 p2)).toNatClampNeg (jL_isTold_0_131_0 ni li mi mv nx al nc nl kb0 hb0 vk vg p1 p2)) ((jL_isTold_0_155_0 ni li mi mv nx al nc nl kb0 hb0 vk vg p1 p2)).toNatClampNeg (jL_isTold_0_165_0 ni li mi mv nx al nc nl kb0 hb0 vk vg p1 p2))), rfl, ⟨(by unfold rL_isTold_0; rw [if_neg c_2]), (by unfold oL_isTold_0_kb0; rfl), (by unfold oL_isTold_0_vk; rfl)⟩, (by (try dsimp only); rw [ht]; exact hP.sub [2, 3, 4, 5, 0, 1] rfl), va_K.moved hW.alike hK, (by (try dsimp only); exact hD.sub [2, 3, 4, 5, 0, 1] (by decide) rfl)⟩, hS.F ht⟩) hS.2.2 dL_isTold_206
                          · refine lv_iconst (v := 1) hx hb dL_isTold_201 (by decide) ?_
                            refine lv_goto (tgt := 206) hx hb dL_isTold_202 (by decide) ?_
                            refine W.widen (k := 1) (n := 6) (by decide) (by decide) ?_
                            exact W.zret (v := (1 : Int32)) hx hb hr (zNar (Or.inr rfl)) (fun t ht hW => ⟨⟨(1 : Int32), ((oL_does_0_kb0 ni li mi mv nx al nc nl kb0 hb0 (jL_isTold_0_25_0 ni li mi mv nx al nc nl kb0 hb0 vk vg p1 p2) (jL_isTold_0_45_0 ni li mi mv nx al nc nl kb0 hb0 vk vg p1 p2) (jL_isTold_0_182_0 ni li mi mv nx al nc nl kb0 hb0 vk vg p1 p2) (0 : Int32)), (upd (upd vk ((jL_isTold_0_121_0 ni li mi mv nx al nc nl kb0 hb0 vk vg p1 p2)).toNatClampNeg (jL_isTold_0_131_0 ni li mi mv nx al nc nl kb0 hb0 vk vg p1 p2)) ((jL_isTold_0_155_0 ni li mi mv nx al nc nl kb0 hb0 vk vg p1 p2)).toNatClampNeg (jL_isTold_0_165_0 ni li mi mv nx al nc nl kb0 hb0 vk vg p1 p2))), rfl, ⟨(by unfold rL_isTold_0; rw [if_pos c_2]), (by unfold oL_isTold_0_kb0; rfl), (by unfold oL_isTold_0_vk; rfl)⟩, (by (try dsimp only); rw [ht]; exact hP.sub [2, 3, 4, 5, 0, 1] rfl), va_K.moved hW.alike hK, (by (try dsimp only); exact hD.sub [2, 3, 4, 5, 0, 1] (by decide) rfl)⟩, hS.F ht⟩) hS.2.2 dL_isTold_206
                        subst hR9; subst hQ9
                        refine lv_if_eq (tgt := 196) hx hb dL_isTold_188 (by decide) (fun c_3 => ?_) (fun c_3 => ?_)
                        · refine lv_ldc (v := -3000000) hx hb hown (hts _ kL_isTold_0_0) dL_isTold_196 ?_
                          exact J198 (-3000000 : Int32) (by unfold jL_isTold_0_198_0; rw [if_pos c_3]) _ _ _ hP hD hS (lv_sub hl [0, 1, 2, 3, 4, 5, 6, 7, 8, 9, 10, 11, 12, 13, 14, 15] rfl)
                        · refine lv_iload hx hb dL_isTold_191 (lv_at hl 0 rfl) ?_
                          refine lv_goto (tgt := 198) hx hb dL_isTold_193 (by decide) ?_
                          exact J198 (vk ((jL_isTold_0_100_0 ni li mi mv nx al nc nl kb0 hb0 vk vg p1 p2)).toNatClampNeg) (by unfold jL_isTold_0_198_0; rw [if_neg c_3]) _ _ _ hP hD hS (lv_sub hl [0, 1, 2, 3, 4, 5, 6, 7, 8, 9, 10, 11, 12, 13, 14, 15] rfl)
                      subst hR9; subst hQ9
                      refine lv_if_eq (tgt := 181) hx hb dL_isTold_174 (by decide) (fun c_4 => ?_) (fun c_4 => ?_)
                      · refine lv_iconst (v := 0) hx hb dL_isTold_181 (by decide) ?_
                        exact J182 (0 : Int32) (by unfold jL_isTold_0_182_0; rw [if_pos c_4]) _ _ _ hP hD hS (lv_sub hl [0, 1, 2, 3, 4, 5, 6, 7, 8, 9, 10, 11, 12, 13, 14, 15] rfl)
                      · refine lv_iconst (v := 1) hx hb dL_isTold_177 (by decide) ?_
                        refine lv_goto (tgt := 182) hx hb dL_isTold_178 (by decide) ?_
                        exact J182 (1 : Int32) (by unfold jL_isTold_0_182_0; rw [if_neg c_4]) _ _ _ hP hD hS (lv_sub hl [0, 1, 2, 3, 4, 5, 6, 7, 8, 9, 10, 11, 12, 13, 14, 15] rfl)
                    subst hR9; subst hQ9
                    refine lv_if_eq (tgt := 164) hx hb dL_isTold_157 (by decide) (fun c_5 => ?_) (fun c_5 => ?_)
                    · refine lv_iconst (v := 0) hx hb dL_isTold_164 (by decide) ?_
                      exact J165 (0 : Int32) (by unfold jL_isTold_0_165_0; rw [if_pos c_5]) _ _ _ hP hD hS (lv_sub hl [0, 1, 2, 3, 4, 5, 6, 7, 8, 9, 10, 11, 12, 13, 14, 15] rfl)
                    · refine lv_iconst (v := 1) hx hb dL_isTold_160 (by decide) ?_
                      refine lv_goto (tgt := 165) hx hb dL_isTold_161 (by decide) ?_
                      exact J165 (1 : Int32) (by unfold jL_isTold_0_165_0; rw [if_neg c_5]) _ _ _ hP hD hS (lv_sub hl [0, 1, 2, 3, 4, 5, 6, 7, 8, 9, 10, 11, 12, 13, 14, 15] rfl)
                  subst hR9; subst hQ9
                  refine lv_if_eq (tgt := 153) hx hb dL_isTold_135 (by decide) (fun c_6 => ?_) (fun c_6 => ?_)
                  · refine lv_bipush (v := 48) hx hb dL_isTold_153 (by decide) ?_
                    exact J155 (48 : Int32) (by unfold jL_isTold_0_155_0; rw [if_pos c_6]) _ _ _ hP hD hS (lv_sub hl [0, 1, 2, 3, 4, 5, 6, 7, 8, 9, 10, 11, 12, 13, 14, 15] rfl)
                  · refine lv_aload hx hb dL_isTold_138 (lv_at hl 12 rfl) ?_
                    refine lv_iconst (v := 4) hx hb dL_isTold_140 (by decide) ?_
                    refine va_iald hx hb hK hP 5 0 rfl rfl (i := (4 : Int32)) (by unfold vp_in; decide) dL_isTold_141 ?_
                    refine lv_if_ne (tgt := 153) hx hb dL_isTold_142 (by decide) (fun c_7 => ?_) (fun c_7 => ?_)
                    · refine lv_bipush (v := 48) hx hb dL_isTold_153 (by decide) ?_
                      exact J155 (48 : Int32) (by unfold jL_isTold_0_155_0; rw [if_neg c_6, if_neg c_7]) _ _ _ hP hD hS (lv_sub hl [0, 1, 2, 3, 4, 5, 6, 7, 8, 9, 10, 11, 12, 13, 14, 15] rfl)
                    · refine lv_bipush (v := 24) hx hb dL_isTold_145 (by decide) ?_
                      refine lv_iload hx hb dL_isTold_147 (lv_at hl 1 rfl) ?_
                      refine lv_iadd hx hb dL_isTold_149 ?_
                      refine lv_goto (tgt := 155) hx hb dL_isTold_150 (by decide) ?_
                      exact J155 ((24 : Int32) + (jL_isTold_0_100_0 ni li mi mv nx al nc nl kb0 hb0 vk vg p1 p2)) (by unfold jL_isTold_0_155_0; rw [if_neg c_6, if_pos c_7]) _ _ _ hP hD hS (lv_sub hl [0, 1, 2, 3, 4, 5, 6, 7, 8, 9, 10, 11, 12, 13, 14, 15] rfl)
                subst hR9; subst hQ9
                refine lv_if_eq (tgt := 130) hx hb dL_isTold_123 (by decide) (fun c_8 => ?_) (fun c_8 => ?_)
                · refine lv_iconst (v := 0) hx hb dL_isTold_130 (by decide) ?_
                  exact J131 (0 : Int32) (by unfold jL_isTold_0_131_0; rw [if_pos c_8]) _ (lv_sub hl [0, 1, 2, 3, 4, 5, 6, 7, 8, 9, 10, 11, 12, 13, 14, 15] rfl)
                · refine lv_iconst (v := 1) hx hb dL_isTold_126 (by decide) ?_
                  refine lv_goto (tgt := 131) hx hb dL_isTold_127 (by decide) ?_
                  exact J131 (1 : Int32) (by unfold jL_isTold_0_131_0; rw [if_neg c_8]) _ (lv_sub hl [0, 1, 2, 3, 4, 5, 6, 7, 8, 9, 10, 11, 12, 13, 14, 15] rfl)
              subst hR9; subst hQ9
              refine lv_if_eq (tgt := 119) hx hb dL_isTold_111 (by decide) (fun c_9 => ?_) (fun c_9 => ?_)
              · refine lv_bipush (v := 48) hx hb dL_isTold_119 (by decide) ?_
                exact J121 (48 : Int32) (by unfold jL_isTold_0_121_0; rw [if_pos c_9]) _ (lv_sub hl [0, 1, 2, 3, 4, 5, 6, 7, 8, 9, 10, 11, 12, 13, 14, 15] rfl)
              · refine lv_iload hx hb dL_isTold_114 (lv_at hl 1 rfl) ?_
                refine lv_goto (tgt := 121) hx hb dL_isTold_116 (by decide) ?_
                exact J121 (jL_isTold_0_100_0 ni li mi mv nx al nc nl kb0 hb0 vk vg p1 p2) (by unfold jL_isTold_0_121_0; rw [if_neg c_9]) _ (lv_sub hl [0, 1, 2, 3, 4, 5, 6, 7, 8, 9, 10, 11, 12, 13, 14, 15] rfl)
            subst hR9; subst hQ9
            refine lv_if_eq (tgt := 99) hx hb dL_isTold_86 (by decide) (fun c_10 => ?_) (fun c_10 => ?_)
            · refine lv_iconst (v := 0) hx hb dL_isTold_99 (by decide) ?_
              exact J100 (0 : Int32) (by unfold jL_isTold_0_100_0; rw [if_pos c_10]) _ (lv_sub hl [0, 1, 2, 3, 4, 5, 6, 7, 8, 9, 10, 11, 12, 13] rfl)
            · refine lv_iconst (v := 4) hx hb dL_isTold_89 (by decide) ?_
              refine lv_iload hx hb dL_isTold_90 (lv_at hl 3 rfl) ?_
              refine lv_imul hx hb dL_isTold_92 ?_
              refine lv_iload hx hb dL_isTold_93 (lv_at hl 2 rfl) ?_
              refine lv_iadd hx hb dL_isTold_95 ?_
              refine lv_goto (tgt := 100) hx hb dL_isTold_96 (by decide) ?_
              exact J100 (((4 : Int32) * (jL_isTold_0_25_0 ni li mi mv nx al nc nl kb0 hb0 vk vg p1 p2)) + (jL_isTold_0_45_0 ni li mi mv nx al nc nl kb0 hb0 vk vg p1 p2)) (by unfold jL_isTold_0_100_0; rw [if_neg c_10]) _ (lv_sub hl [0, 1, 2, 3, 4, 5, 6, 7, 8, 9, 10, 11, 12, 13] rfl)
          subst hR9; subst hQ9
          refine lv_icmp_ge (tgt := 81) hx hb dL_isTold_68 (by decide) (fun c_11 => ?_) (fun c_11 => ?_)
          · refine lv_iconst (v := 0) hx hb dL_isTold_81 (by decide) ?_
            exact J82 (0 : Int32) (by unfold jL_isTold_0_82_0; rw [if_pos c_11]) _ (lv_sub hl [0, 1, 2, 3, 4, 5, 6, 7, 8, 9, 10, 11, 12] rfl)
          · refine lv_iload hx hb dL_isTold_71 (lv_at hl 1 rfl) ?_
            refine lv_iconst (v := 4) hx hb dL_isTold_73 (by decide) ?_
            refine lv_icmp_ge (tgt := 81) hx hb dL_isTold_74 (by decide) (fun c_12 => ?_) (fun c_12 => ?_)
            · refine lv_iconst (v := 0) hx hb dL_isTold_81 (by decide) ?_
              exact J82 (0 : Int32) (by unfold jL_isTold_0_82_0; rw [if_neg c_11, if_pos c_12]) _ (lv_sub hl [0, 1, 2, 3, 4, 5, 6, 7, 8, 9, 10, 11, 12] rfl)
            · refine lv_iconst (v := 1) hx hb dL_isTold_77 (by decide) ?_
              refine lv_goto (tgt := 82) hx hb dL_isTold_78 (by decide) ?_
              exact J82 (1 : Int32) (by unfold jL_isTold_0_82_0; rw [if_neg c_11, if_neg c_12]) _ (lv_sub hl [0, 1, 2, 3, 4, 5, 6, 7, 8, 9, 10, 11, 12] rfl)
        subst hR9; subst hQ9
        refine lv_if_le (tgt := 61) hx hb dL_isTold_54 (by decide) (fun c_13 => ?_) (fun c_13 => ?_)
        · refine lv_iconst (v := 0) hx hb dL_isTold_61 (by decide) ?_
          exact J62 (0 : Int32) (by unfold jL_isTold_0_62_0; rw [if_pos c_13]) _ (lv_sub hl [0, 1, 2, 3, 4, 5, 6, 7, 8, 9, 10, 11] rfl)
        · refine lv_iconst (v := 1) hx hb dL_isTold_57 (by decide) ?_
          refine lv_goto (tgt := 62) hx hb dL_isTold_58 (by decide) ?_
          exact J62 (1 : Int32) (by unfold jL_isTold_0_62_0; rw [if_neg c_13]) _ (lv_sub hl [0, 1, 2, 3, 4, 5, 6, 7, 8, 9, 10, 11] rfl)
      subst hR9; subst hQ9
      refine lv_icmp_ne (tgt := 41) hx hb dL_isTold_34 (by decide) (fun c_14 => ?_) (fun c_14 => ?_)
      · refine lv_iload hx hb dL_isTold_41 (lv_at hl 10 rfl) ?_
        refine lv_iconst (v := 4) hx hb dL_isTold_43 (by decide) ?_
        refine zvRem hx hb dL_isTold_44 (by decide) ?_
        exact J45 (zRem p2 (4 : Int32)) (by unfold jL_isTold_0_45_0; rw [if_neg c_14]) _ (lv_sub hl [0, 1, 2, 3, 4, 5, 6, 7, 8, 9, 10] rfl)
      · refine lv_iconst (v := 4) hx hb dL_isTold_37 (by decide) ?_
        refine lv_goto (tgt := 45) hx hb dL_isTold_38 (by decide) ?_
        exact J45 (4 : Int32) (by unfold jL_isTold_0_45_0; rw [if_pos c_14]) _ (lv_sub hl [0, 1, 2, 3, 4, 5, 6, 7, 8, 9, 10] rfl)
    subst hR9; subst hQ9
    refine lv_icmp_ne (tgt := 20) hx hb dL_isTold_12 (by decide) (fun c_15 => ?_) (fun c_15 => ?_)
    · refine lv_iload hx hb dL_isTold_20 (lv_at hl 8 rfl) ?_
      refine lv_bipush (v := 6) hx hb dL_isTold_22 (by decide) ?_
      refine zvRem hx hb dL_isTold_24 (by decide) ?_
      exact J25 (zRem p1 (6 : Int32)) (by unfold jL_isTold_0_25_0; rw [if_neg c_15]) _ (lv_sub hl [0, 1, 2, 3, 4, 5, 6, 7, 8, 9] rfl)
    · refine lv_bipush (v := 6) hx hb dL_isTold_15 (by decide) ?_
      refine lv_goto (tgt := 25) hx hb dL_isTold_17 (by decide) ?_
      exact J25 (6 : Int32) (by unfold jL_isTold_0_25_0; rw [if_pos c_15]) _ (lv_sub hl [0, 1, 2, 3, 4, 5, 6, 7, 8, 9] rfl)
theorem brL_isTold_0 (ni : Int32) (li : Int32) (mi : Int32) (mv : Int32) (nx : Int32) (al : Int32) (nc : Int32) (nl : Int32) (kb0 : Nat → Int32) (hb0 : Nat → Int32) (vk : Nat → Int32) (vg : Nat → Int32) (p1 : Int32) (p2 : Int32) : rL_isTold_0 ni li mi mv nx al nc nl kb0 hb0 vk vg p1 p2 = 0 ∨ rL_isTold_0 ni li mi mv nx al nc nl kb0 hb0 vk vg p1 p2 = 1 := by
  unfold rL_isTold_0
  repeat' split
  all_goals first | exact Or.inl rfl | exact Or.inr rfl | exact bjL_isTold_0_182_0 _ _ _ _ _ _ _ _ _ _ _ _ _ _
