/-! L_does -/
def rL_does_13 (ni : Int32) (li : Int32) (mi : Int32) (mv : Int32) (nx : Int32) (al : Int32) (nc : Int32) (nl : Int32) (ki : Nat → Int32) (fi : Nat → Int32) (se : Nat → Int32) (th : Nat → Int32) (size : Int32) (on : Int32) (il : Int32) (ba : Int32) (kn : Nat → Int32) (ho : Nat → Int32) (p1 : Int32) (p2 : Int32) (p3 : Int32) (p4 : Int32) : Int32 := (if (xX7_give ni li mi mv nx al nc nl ki fi se th size on il ba kn ho p1 p2 p3) = 0 then (rX7_give ni li mi mv nx al nc nl ki fi se th size on il ba kn ho p1 p2 p3) else (if (xX7_give ni li mi mv nx al nc nl ki fi se th size on il ba kn ho p1 p2 p3) = 1 then (-3000000 : Int32) else (if (xX7_give ni li mi mv nx al nc nl ki fi se th size on il ba kn ho p1 p2 p3) = 2 then (-2000000 : Int32) else (-1000000 : Int32))))
def oL_does_13_ho (ni : Int32) (li : Int32) (mi : Int32) (mv : Int32) (nx : Int32) (al : Int32) (nc : Int32) (nl : Int32) (ki : Nat → Int32) (fi : Nat → Int32) (se : Nat → Int32) (th : Nat → Int32) (size : Int32) (on : Int32) (il : Int32) (ba : Int32) (kn : Nat → Int32) (ho : Nat → Int32) (p1 : Int32) (p2 : Int32) (p3 : Int32) (p4 : Int32) : Nat → Int32 := (if (xX7_give ni li mi mv nx al nc nl ki fi se th size on il ba kn ho p1 p2 p3) = 0 then (oX7_give_ho ni li mi mv nx al nc nl ki fi se th size on il ba kn ho p1 p2 p3) else ho)
def oL_does_13_ni (ni : Int32) (li : Int32) (mi : Int32) (mv : Int32) (nx : Int32) (al : Int32) (nc : Int32) (nl : Int32) (ki : Nat → Int32) (fi : Nat → Int32) (se : Nat → Int32) (th : Nat → Int32) (size : Int32) (on : Int32) (il : Int32) (ba : Int32) (kn : Nat → Int32) (ho : Nat → Int32) (p1 : Int32) (p2 : Int32) (p3 : Int32) (p4 : Int32) : Int32 := (if (xX7_give ni li mi mv nx al nc nl ki fi se th size on il ba kn ho p1 p2 p3) = 0 then (oX7_give_ni ni li mi mv nx al nc nl ki fi se th size on il ba kn ho p1 p2 p3) else ni)
def oL_does_13_mi (ni : Int32) (li : Int32) (mi : Int32) (mv : Int32) (nx : Int32) (al : Int32) (nc : Int32) (nl : Int32) (ki : Nat → Int32) (fi : Nat → Int32) (se : Nat → Int32) (th : Nat → Int32) (size : Int32) (on : Int32) (il : Int32) (ba : Int32) (kn : Nat → Int32) (ho : Nat → Int32) (p1 : Int32) (p2 : Int32) (p3 : Int32) (p4 : Int32) : Int32 := (if (xX7_give ni li mi mv nx al nc nl ki fi se th size on il ba kn ho p1 p2 p3) = 0 then (oX7_give_mi ni li mi mv nx al nc nl ki fi se th size on il ba kn ho p1 p2 p3) else mi)
def oL_does_13_mv (ni : Int32) (li : Int32) (mi : Int32) (mv : Int32) (nx : Int32) (al : Int32) (nc : Int32) (nl : Int32) (ki : Nat → Int32) (fi : Nat → Int32) (se : Nat → Int32) (th : Nat → Int32) (size : Int32) (on : Int32) (il : Int32) (ba : Int32) (kn : Nat → Int32) (ho : Nat → Int32) (p1 : Int32) (p2 : Int32) (p3 : Int32) (p4 : Int32) : Int32 := (if (xX7_give ni li mi mv nx al nc nl ki fi se th size on il ba kn ho p1 p2 p3) = 0 then (oX7_give_mv ni li mi mv nx al nc nl ki fi se th size on il ba kn ho p1 p2 p3) else mv)
def oL_does_13_nx (ni : Int32) (li : Int32) (mi : Int32) (mv : Int32) (nx : Int32) (al : Int32) (nc : Int32) (nl : Int32) (ki : Nat → Int32) (fi : Nat → Int32) (se : Nat → Int32) (th : Nat → Int32) (size : Int32) (on : Int32) (il : Int32) (ba : Int32) (kn : Nat → Int32) (ho : Nat → Int32) (p1 : Int32) (p2 : Int32) (p3 : Int32) (p4 : Int32) : Int32 := (if (xX7_give ni li mi mv nx al nc nl ki fi se th size on il ba kn ho p1 p2 p3) = 0 then (oX7_give_nx ni li mi mv nx al nc nl ki fi se th size on il ba kn ho p1 p2 p3) else nx)
def oL_does_13_nc (ni : Int32) (li : Int32) (mi : Int32) (mv : Int32) (nx : Int32) (al : Int32) (nc : Int32) (nl : Int32) (ki : Nat → Int32) (fi : Nat → Int32) (se : Nat → Int32) (th : Nat → Int32) (size : Int32) (on : Int32) (il : Int32) (ba : Int32) (kn : Nat → Int32) (ho : Nat → Int32) (p1 : Int32) (p2 : Int32) (p3 : Int32) (p4 : Int32) : Int32 := (if (xX7_give ni li mi mv nx al nc nl ki fi se th size on il ba kn ho p1 p2 p3) = 0 then (oX7_give_nc ni li mi mv nx al nc nl ki fi se th size on il ba kn ho p1 p2 p3) else nc)
def oL_does_13_nl (ni : Int32) (li : Int32) (mi : Int32) (mv : Int32) (nx : Int32) (al : Int32) (nc : Int32) (nl : Int32) (ki : Nat → Int32) (fi : Nat → Int32) (se : Nat → Int32) (th : Nat → Int32) (size : Int32) (on : Int32) (il : Int32) (ba : Int32) (kn : Nat → Int32) (ho : Nat → Int32) (p1 : Int32) (p2 : Int32) (p3 : Int32) (p4 : Int32) : Int32 := (if (xX7_give ni li mi mv nx al nc nl ki fi se th size on il ba kn ho p1 p2 p3) = 0 then (oX7_give_nl ni li mi mv nx al nc nl ki fi se th size on il ba kn ho p1 p2 p3) else nl)
set_option maxRecDepth 20000 in
theorem kL_does_13_0 : Cond.classLink RL 82 "java/lang/IndexOutOfBoundsException" ∈ wsL_does := by decide +kernel
set_option maxRecDepth 20000 in
theorem kL_does_13_1 : Cond.constant RL 84 (-3000000) ∈ wsL_does := by decide +kernel
set_option maxRecDepth 20000 in
theorem kL_does_13_2 : Cond.classLink RL 85 "java/lang/IllegalArgumentException" ∈ wsL_does := by decide +kernel
set_option maxRecDepth 20000 in
theorem kL_does_13_3 : Cond.constant RL 87 (-2000000) ∈ wsL_does := by decide +kernel
set_option maxRecDepth 20000 in
theorem kL_does_13_4 : Cond.classLink RL 88 "java/lang/IllegalStateException" ∈ wsL_does := by decide +kernel
set_option maxRecDepth 20000 in
theorem kL_does_13_5 : Cond.constant RL 90 (-1000000) ∈ wsL_does := by decide +kernel
set_option maxHeartbeats 1400000 in
set_option maxRecDepth 100000 in
theorem c_L_does_13 (l : Launch) (hfl : l.stackTraces = false) (dC : Nat → ClassId) (dI : Nat → Nat → Nat) (cI cJ : ClassId) (mh ca ck cf cs ct sg lg kg hg la pl rw tw ga pa : Nat) (sz : Nat) (ni : Int32) (li : Int32) (mi : Int32) (mv : Int32) (nx : Int32) (al : Int32) (nc : Int32) (nl : Int32) (ki : Nat → Int32) (fi : Nat → Int32) (se : Nat → Int32) (th : Nat → Int32) (size : Int32) (on : Int32) (il : Int32) (ba : Int32) (kn : Nat → Int32) (ho : Nat → Int32) (p1 : Int32) (p2 : Int32) (p3 : Int32) (p4 : Int32) (hsz0 : 0 ≤ size.toInt) (hsz : size.toInt ≤ 12) : Met l yL_does wsL_does ({ frames := 8, cells := 1, slots := 6, locals := 127 }) (va_Pc [.ref mh, .int (13 : Int32), .int p1, .int p2, .int p3, .int p4] (zI (dC, dI) [(cI, .int), (cJ, .long)] [(mh, .inr (7, [.ref ca, .ref la, .ref sg, .ref pl, .ref rw, .ref tw, .ref ga, .ref pa, .int ni, .int li, .int mi, .int mv, .int nx, .int al, .int nc, .int nl])), (ca, .inr (0, [.ref ck, .ref cf, .ref cs, .ref ct, .int size])), (ck, .inl (cI, 12, .inl ki)), (cf, .inl (cI, 12, .inl fi)), (cs, .inl (cI, 12, .inl se)), (ct, .inl (cI, 12, .inl th)), (sg, .inr (5, [.ref lg, .int on, .int il, .int ba])), (lg, .inr (2, [.ref kg, .ref hg])), (kg, .inl (cI, 4, .inl kn)), (hg, .inl (cI, 4, .inl ho))] sz)) (va_Qi (fun (r : Int32) (u : (Nat → Int32) × (Int32) × (Int32) × (Int32) × (Int32) × (Int32) × (Int32)) => r = rL_does_13 ni li mi mv nx al nc nl ki fi se th size on il ba kn ho p1 p2 p3 p4 ∧ u.1 = oL_does_13_ho ni li mi mv nx al nc nl ki fi se th size on il ba kn ho p1 p2 p3 p4 ∧ u.2.1 = oL_does_13_ni ni li mi mv nx al nc nl ki fi se th size on il ba kn ho p1 p2 p3 p4 ∧ u.2.2.1 = oL_does_13_mi ni li mi mv nx al nc nl ki fi se th size on il ba kn ho p1 p2 p3 p4 ∧ u.2.2.2.1 = oL_does_13_mv ni li mi mv nx al nc nl ki fi se th size on il ba kn ho p1 p2 p3 p4 ∧ u.2.2.2.2.1 = oL_does_13_nx ni li mi mv nx al nc nl ki fi se th size on il ba kn ho p1 p2 p3 p4 ∧ u.2.2.2.2.2.1 = oL_does_13_nc ni li mi mv nx al nc nl ki fi se th size on il ba kn ho p1 p2 p3 p4 ∧ u.2.2.2.2.2.2 = oL_does_13_nl ni li mi mv nx al nc nl ki fi se th size on il ba kn ho p1 p2 p3 p4) (fun u => zO (dC, dI) [(cI, .int), (cJ, .long)] [(mh, .inr (7, [.ref ca, .ref la, .ref sg, .ref pl, .ref rw, .ref tw, .ref ga, .ref pa, .int u.2.1, .int li, .int u.2.2.1, .int u.2.2.2.1, .int u.2.2.2.2.1, .int al, .int u.2.2.2.2.2.1, .int u.2.2.2.2.2.2])), (ca, .inr (0, [.ref ck, .ref cf, .ref cs, .ref ct, .int size])), (ck, .inl (cI, 12, .inl ki)), (cf, .inl (cI, 12, .inl fi)), (cs, .inl (cI, 12, .inl se)), (ct, .inl (cI, 12, .inl th)), (sg, .inr (5, [.ref lg, .int on, .int il, .int ba])), (lg, .inr (2, [.ref kg, .ref hg])), (kg, .inl (cI, 4, .inl kn)), (hg, .inl (cI, 4, .inl u.1))] (va_A [(mh, .inr (7, [.ref ca, .ref la, .ref sg, .ref pl, .ref rw, .ref tw, .ref ga, .ref pa, .int ni, .int li, .int mi, .int mv, .int nx, .int al, .int nc, .int nl])), (ca, .inr (0, [.ref ck, .ref cf, .ref cs, .ref ct, .int size])), (ck, .inl (cI, 12, .inl ki)), (cf, .inl (cI, 12, .inl fi)), (cs, .inl (cI, 12, .inl se)), (ct, .inl (cI, 12, .inl th)), (sg, .inr (5, [.ref lg, .int on, .int il, .int ba])), (lg, .inr (2, [.ref kg, .ref hg])), (kg, .inl (cI, 4, .inl kn)), (hg, .inl (cI, 4, .inl ho))] sz)) (va_A [(mh, .inr (7, [.ref ca, .ref la, .ref sg, .ref pl, .ref rw, .ref tw, .ref ga, .ref pa, .int ni, .int li, .int mi, .int mv, .int nx, .int al, .int nc, .int nl])), (ca, .inr (0, [.ref ck, .ref cf, .ref cs, .ref ct, .int size])), (ck, .inl (cI, 12, .inl ki)), (cf, .inl (cI, 12, .inl fi)), (cs, .inl (cI, 12, .inl se)), (ct, .inl (cI, 12, .inl th)), (sg, .inr (5, [.ref lg, .int on, .int il, .int ba])), (lg, .inr (2, [.ref kg, .ref hg])), (kg, .inl (cI, 4, .inl kn)), (hg, .inl (cI, 4, .inl ho))] sz)) 1 6 (va_A [(mh, .inr (7, [.ref ca, .ref la, .ref sg, .ref pl, .ref rw, .ref tw, .ref ga, .ref pa, .int ni, .int li, .int mi, .int mv, .int nx, .int al, .int nc, .int nl])), (ca, .inr (0, [.ref ck, .ref cf, .ref cs, .ref ct, .int size])), (ck, .inl (cI, 12, .inl ki)), (cf, .inl (cI, 12, .inl fi)), (cs, .inl (cI, 12, .inl se)), (ct, .inl (cI, 12, .inl th)), (sg, .inr (5, [.ref lg, .int on, .int il, .int ba])), (lg, .inr (2, [.ref kg, .ref hg])), (kg, .inl (cI, 4, .inl kn)), (hg, .inl (cI, 4, .inl ho))] sz) := by
  refine va_MetW (cc := cL_does) (maxL := 7) (ret := (some .int)) (by decide) rfl ?_
  intro p e s m args below meth c s₁ B hml hv
  obtain ⟨rfl, hsz, hP, hK, hD0, hG⟩ := hv
  have hx := B.exec
  have hb := B.bytes
  have hr := B.returns
  have hts := atoms_spec (ws := wsL_does) B.pre
  have hown : s.vm.findClass RL = some m.cls := findClass_of_methodNamed B.named
  have hlocks := B.notSynchronized
  have htab := vx_table (x := yL_does) (y := yL_does) B (hts _ List.mem_cons_self)
  subst hsz
  have hD := hD0.self (sz := s.heap.size)
  generalize hAe : va_A [(mh, .inr (7, [.ref ca, .ref la, .ref sg, .ref pl, .ref rw, .ref tw, .ref ga, .ref pa, .int ni, .int li, .int mi, .int mv, .int nx, .int al, .int nc, .int nl])), (ca, .inr (0, [.ref ck, .ref cf, .ref cs, .ref ct, .int size])), (ck, .inl (cI, 12, .inl ki)), (cf, .inl (cI, 12, .inl fi)), (cs, .inl (cI, 12, .inl se)), (ct, .inl (cI, 12, .inl th)), (sg, .inr (5, [.ref lg, .int on, .int il, .int ba])), (lg, .inr (2, [.ref kg, .ref hg])), (kg, .inl (cI, 4, .inl kn)), (hg, .inl (cI, 4, .inl ho))] s.heap.size = A at hD hG ⊢
  have hA : ∀ q : Nat, s.heap.size ≤ q → A q := fun q h => by rw [← hAe]; exact Or.inr h
  have hS : va_S A s.heap s.heap [] := va_S.rf
  have hP : va_P (dC, dI) vwCl [(mh, .inr (7, [.ref ca, .ref la, .ref sg, .ref pl, .ref rw, .ref tw, .ref ga, .ref pa, .int ni, .int li, .int mi, .int mv, .int nx, .int al, .int nc, .int nl])), (ca, .inr (0, [.ref ck, .ref cf, .ref cs, .ref ct, .int size])), (ck, .inl (cI, 12, .inl ki)), (cf, .inl (cI, 12, .inl fi)), (cs, .inl (cI, 12, .inl se)), (ct, .inl (cI, 12, .inl th)), (sg, .inr (5, [.ref lg, .int on, .int il, .int ba])), (lg, .inr (2, [.ref kg, .ref hg])), (kg, .inl (cI, 4, .inl kn)), (hg, .inl (cI, 4, .inl ho))] s.heap := hP
  have hl := lv_entry ([.ref mh, .int (13 : Int32), .int p1, .int p2, .int p3, .int p4]) (n := 7) (Nat.le_of_ble_eq_true rfl)
  rw [lg_entry_eq]
  generalize (lg_sl ([.ref mh, .int (13 : Int32), .int p1, .int p2, .int p3, .int p4]) ++ List.replicate (7 - (lg_sl ([.ref mh, .int (13 : Int32), .int p1, .int p2, .int p3, .int p4])).length) Slot.unset).toArray = ls at hl ⊢
  have hl : lv_has ls 7 [(0, .ref mh), (1, .int (13 : Int32)), (2, .int p1), (3, .int p2), (4, .int p3), (5, .int p4)] := hl
  refine lv_iload_n hx hb dL_does_0 rfl (lv_at hl 1 rfl) ?_
  refine lv_if_ne (tgt := 32) hx hb dL_does_1 (by decide) (fun c_1 => ?_) (fun c_1 => ?_)
  · refine lv_iload_n hx hb dL_does_32 rfl (lv_at hl 1 rfl) ?_
    refine lv_iconst (v := 1) hx hb dL_does_33 (by decide) ?_
    refine lv_icmp_ne (tgt := 46) hx hb dL_does_34 (by decide) (fun c_2 => ?_) (fun c_2 => ?_)
    · refine lv_iload_n hx hb dL_does_46 rfl (lv_at hl 1 rfl) ?_
      refine lv_iconst (v := 2) hx hb dL_does_47 (by decide) ?_
      refine lv_icmp_ne (tgt := 64) hx hb dL_does_48 (by decide) (fun c_3 => ?_) (fun c_3 => ?_)
      · refine lv_iload_n hx hb dL_does_64 rfl (lv_at hl 1 rfl) ?_
        refine lv_iconst (v := 3) hx hb dL_does_65 (by decide) ?_
        refine lv_icmp_ne (tgt := 76) hx hb dL_does_66 (by decide) (fun c_4 => ?_) (fun c_4 => ?_)
        · refine lv_iload_n hx hb dL_does_76 rfl (lv_at hl 1 rfl) ?_
          refine lv_iconst (v := 4) hx hb dL_does_77 (by decide) ?_
          refine lv_icmp_ne (tgt := 97) hx hb dL_does_78 (by decide) (fun c_5 => ?_) (fun c_5 => ?_)
          · refine lv_iload_n hx hb dL_does_97 rfl (lv_at hl 1 rfl) ?_
            refine lv_iconst (v := 5) hx hb dL_does_98 (by decide) ?_
            refine lv_icmp_ne (tgt := 118) hx hb dL_does_99 (by decide) (fun c_6 => ?_) (fun c_6 => ?_)
            · refine lv_iload_n hx hb dL_does_118 rfl (lv_at hl 1 rfl) ?_
              refine lv_bipush (v := 6) hx hb dL_does_119 (by decide) ?_
              refine lv_icmp_ne (tgt := 131) hx hb dL_does_121 (by decide) (fun c_7 => ?_) (fun c_7 => ?_)
              · refine lv_iload_n hx hb dL_does_131 rfl (lv_at hl 1 rfl) ?_
                refine lv_bipush (v := 7) hx hb dL_does_132 (by decide) ?_
                refine lv_icmp_ne (tgt := 148) hx hb dL_does_134 (by decide) (fun c_8 => ?_) (fun c_8 => ?_)
                · refine lv_iload_n hx hb dL_does_148 rfl (lv_at hl 1 rfl) ?_
                  refine lv_bipush (v := 8) hx hb dL_does_149 (by decide) ?_
                  refine lv_icmp_ne (tgt := 163) hx hb dL_does_151 (by decide) (fun c_9 => ?_) (fun c_9 => ?_)
                  · refine lv_iload_n hx hb dL_does_163 rfl (lv_at hl 1 rfl) ?_
                    refine lv_bipush (v := 9) hx hb dL_does_164 (by decide) ?_
                    refine lv_icmp_ne (tgt := 177) hx hb dL_does_166 (by decide) (fun c_10 => ?_) (fun c_10 => ?_)
                    · refine lv_iload_n hx hb dL_does_177 rfl (lv_at hl 1 rfl) ?_
                      refine lv_bipush (v := 10) hx hb dL_does_178 (by decide) ?_
                      refine lv_icmp_ne (tgt := 191) hx hb dL_does_180 (by decide) (fun c_11 => ?_) (fun c_11 => ?_)
                      · refine lv_iload_n hx hb dL_does_191 rfl (lv_at hl 1 rfl) ?_
                        refine lv_bipush (v := 11) hx hb dL_does_192 (by decide) ?_
                        refine lv_icmp_ne (tgt := 205) hx hb dL_does_194 (by decide) (fun c_12 => ?_) (fun c_12 => ?_)
                        · refine lv_iload_n hx hb dL_does_205 rfl (lv_at hl 1 rfl) ?_
                          refine lv_bipush (v := 12) hx hb dL_does_206 (by decide) ?_
                          refine lv_icmp_ne (tgt := 222) hx hb dL_does_208 (by decide) (fun c_13 => ?_) (fun c_13 => ?_)
                          · refine lv_iload_n hx hb dL_does_222 rfl (lv_at hl 1 rfl) ?_
                            refine lv_bipush (v := 13) hx hb dL_does_223 (by decide) ?_
                            refine lv_icmp_ne (tgt := 239) hx hb dL_does_225 (by decide) (fun c_14 => ?_) (fun c_14 => ?_)
                            · exact absurd (show (13 : Int32) = (13 : Int32) from by decide) c_14
                            · refine lv_aload_n hx hb dL_does_228 rfl (lv_at hl 0 rfl) ?_
                              refine lv_iload_n hx hb dL_does_229 rfl (lv_at hl 2 rfl) ?_
                              refine lv_iload_n hx hb dL_does_230 rfl (lv_at hl 3 rfl) ?_
                              refine lv_iload hx hb dL_does_231 (lv_at hl 4 rfl) ?_
                              refine zxI (wr := []) (px := fun k9 => (xX7_give ni li mi mv nx al nc nl ki fi se th size on il ba kn ho p1 p2 p3) = k9 ∧ k9 ≠ 0) (P0 := (xX7_give ni li mi mv nx al nc nl ki fi se th size on il ba kn ho p1 p2 p3) = 0) (r0 := (rX7_give ni li mi mv nx al nc nl ki fi se th size on il ba kn ho p1 p2 p3)) (u0 := ((oX7_give_ho ni li mi mv nx al nc nl ki fi se th size on il ba kn ho p1 p2 p3), (oX7_give_ni ni li mi mv nx al nc nl ki fi se th size on il ba kn ho p1 p2 p3), (oX7_give_mi ni li mi mv nx al nc nl ki fi se th size on il ba kn ho p1 p2 p3), (oX7_give_mv ni li mi mv nx al nc nl ki fi se th size on il ba kn ho p1 p2 p3), (oX7_give_nx ni li mi mv nx al nc nl ki fi se th size on il ba kn ho p1 p2 p3), (oX7_give_nc ni li mi mv nx al nc nl ki fi se th size on il ba kn ho p1 p2 p3), (oX7_give_nl ni li mi mv nx al nc nl ki fi se th size on il ba kn ho p1 p2 p3))) (vx_runV (As := [.int p1, .int p2, .int p3]) (rest := []) ⟨hx, hb, hml, hown, hts⟩ (c_X7_give l hfl dC dI cI cJ mh ca ck cf cs ct sg lg kg hg la pl rw tw ga pa s.heap.size ni li mi mv nx al nc nl ki fi se th size on il ba kn ho p1 p2 p3 (by assumption) (by assumption)) (cwV 3 hts gL_does_X7_give rfl rfl rfl (by decide +kernel) ⟨Nat.le_of_ble_eq_true rfl, Nat.le_of_ble_eq_true rfl⟩) (zpV hK hP hD hS hA hG [0, 1, 2, 3, 4, 5, 6, 7, 8, 9] (by decide) rfl 7 0 rfl rfl) rfl rfl hl.1 rfl (lv_room (Nat.le_of_ble_eq_true rfl)) dL_does_233 ⟨Nat.le_of_ble_eq_true rfl, Nat.le_of_ble_eq_true rfl⟩) (fun r u h => ⟨h.1, h.2.1, zT7 h.2.2.1 h.2.2.2.1 h.2.2.2.2.1 h.2.2.2.2.2.1 h.2.2.2.2.2.2.1 h.2.2.2.2.2.2.2.1 h.2.2.2.2.2.2.2.2⟩) hP hD hS hA [0, 1, 2, 3, 4, 5, 6, 7, 8, 9] [] rfl rfl (by decide) (by decide) (fun k9 ce q9 H locs hw_15 hP hS hce hcv hcl => ?_) (fun H locs c_16 hP hD hS => ?_)
                              · have hk9 : k9 = 1 ∨ k9 = 2 ∨ k9 = 3 := by have h := bxX7_give ni li mi mv nx al nc nl ki fi se th size on il ba kn ho p1 p2 p3; omega
                                rcases hk9 with rfl | rfl | rfl
                                · have c_16 : ¬ (xX7_give ni li mi mv nx al nc nl ki fi se th size on il ba kn ho p1 p2 p3) = 0 := by rw [hw_15.1]; decide
                                  have c_17 : (xX7_give ni li mi mv nx al nc nl ki fi se th size on il ba kn ho p1 p2 p3) = 1 := hw_15.1
                                  refine vx_catch (name := zXn 1) hown [] ⟨0, 326, 327, 82⟩ [⟨0, 326, 332, 85⟩, ⟨0, 326, 337, 88⟩] htab (fun z hz => by cases hz) (by decide) (by decide) (hts _ kL_does_13_0) (va_Nw.use rfl (hG.1.2.2.2.1 1)) hce hcv hcl ?_
                                  refine lv_astore (lv' := [(6, .ref q9), (0, .ref mh), (1, .int (13 : Int32)), (2, .int p1), (3, .int p2), (4, .int p3), (5, .int p4)]) hx hb dL_does_327 hl (by decide) rfl (fun ls hl => ?_)
                                  refine lv_ldc (v := -3000000) hx hb hown (hts _ kL_does_13_1) dL_does_329 ?_
                                  refine W.widen (k := 1) (n := 6) (by decide) (by decide) ?_
                                  exact W.iret (v := (-3000000 : Int32)) hx hb hr (fun t ht hW => ⟨⟨(-3000000 : Int32), (ho, ni, mi, mv, nx, nc, nl), rfl, ⟨(by unfold rL_does_13; rw [if_neg c_16, if_pos c_17]), (by unfold oL_does_13_ho; rw [if_neg c_16]), (by unfold oL_does_13_ni; rw [if_neg c_16]), (by unfold oL_does_13_mi; rw [if_neg c_16]), (by unfold oL_does_13_mv; rw [if_neg c_16]), (by unfold oL_does_13_nx; rw [if_neg c_16]), (by unfold oL_does_13_nc; rw [if_neg c_16]), (by unfold oL_does_13_nl; rw [if_neg c_16])⟩, (by rw [ht]; exact hP.sub [0, 1, 2, 3, 4, 5, 6, 7, 8, 9] rfl), va_K.moved hW.alike hK, hD.sub [0, 1, 2, 3, 4, 5, 6, 7, 8, 9] (by decide) rfl⟩, hS.F ht⟩) hS.2.2 dL_does_331
                                · have c_16 : ¬ (xX7_give ni li mi mv nx al nc nl ki fi se th size on il ba kn ho p1 p2 p3) = 0 := by rw [hw_15.1]; decide
                                  have c_19 : ¬ (xX7_give ni li mi mv nx al nc nl ki fi se th size on il ba kn ho p1 p2 p3) = 1 := by rw [hw_15.1]; decide
                                  have c_18 : (xX7_give ni li mi mv nx al nc nl ki fi se th size on il ba kn ho p1 p2 p3) = 2 := hw_15.1
                                  refine vx_catch (name := zXn 2) hown [⟨0, 326, 327, 82⟩] ⟨0, 326, 332, 85⟩ [⟨0, 326, 337, 88⟩] htab (fun z hz => by rcases (List.mem_cons.mp hz) with rfl | hz; exact Or.inr ⟨by decide, _, (hts _ kL_does_13_0), hG.1.2.2.1 _ (List.mem_of_getElem? (i := 0) rfl)⟩; cases hz) (by decide) (by decide) (hts _ kL_does_13_2) (va_Nw.use rfl (hG.1.2.2.2.1 2)) hce hcv hcl ?_
                                  refine lv_astore (lv' := [(6, .ref q9), (0, .ref mh), (1, .int (13 : Int32)), (2, .int p1), (3, .int p2), (4, .int p3), (5, .int p4)]) hx hb dL_does_332 hl (by decide) rfl (fun ls hl => ?_)
                                  refine lv_ldc (v := -2000000) hx hb hown (hts _ kL_does_13_3) dL_does_334 ?_
                                  refine W.widen (k := 1) (n := 6) (by decide) (by decide) ?_
                                  exact W.iret (v := (-2000000 : Int32)) hx hb hr (fun t ht hW => ⟨⟨(-2000000 : Int32), (ho, ni, mi, mv, nx, nc, nl), rfl, ⟨(by unfold rL_does_13; rw [if_neg c_16, if_neg c_19, if_pos c_18]), (by unfold oL_does_13_ho; rw [if_neg c_16]), (by unfold oL_does_13_ni; rw [if_neg c_16]), (by unfold oL_does_13_mi; rw [if_neg c_16]), (by unfold oL_does_13_mv; rw [if_neg c_16]), (by unfold oL_does_13_nx; rw [if_neg c_16]), (by unfold oL_does_13_nc; rw [if_neg c_16]), (by unfold oL_does_13_nl; rw [if_neg c_16])⟩, (by rw [ht]; exact hP.sub [0, 1, 2, 3, 4, 5, 6, 7, 8, 9] rfl), va_K.moved hW.alike hK, hD.sub [0, 1, 2, 3, 4, 5, 6, 7, 8, 9] (by decide) rfl⟩, hS.F ht⟩) hS.2.2 dL_does_336
                                · have c_16 : ¬ (xX7_give ni li mi mv nx al nc nl ki fi se th size on il ba kn ho p1 p2 p3) = 0 := by rw [hw_15.1]; decide
                                  have c_21 : ¬ (xX7_give ni li mi mv nx al nc nl ki fi se th size on il ba kn ho p1 p2 p3) = 1 := by rw [hw_15.1]; decide
                                  have c_22 : ¬ (xX7_give ni li mi mv nx al nc nl ki fi se th size on il ba kn ho p1 p2 p3) = 2 := by rw [hw_15.1]; decide
                                  have c_20 : (xX7_give ni li mi mv nx al nc nl ki fi se th size on il ba kn ho p1 p2 p3) = 3 := hw_15.1
                                  refine vx_catch (name := zXn 3) hown [⟨0, 326, 327, 82⟩, ⟨0, 326, 332, 85⟩] ⟨0, 326, 337, 88⟩ [] htab (fun z hz => by rcases (List.mem_cons.mp hz) with rfl | hz; exact Or.inr ⟨by decide, _, (hts _ kL_does_13_0), hG.1.2.2.1 _ (List.mem_of_getElem? (i := 1) rfl)⟩; rcases (List.mem_cons.mp hz) with rfl | hz; exact Or.inr ⟨by decide, _, (hts _ kL_does_13_2), hG.1.2.2.1 _ (List.mem_of_getElem? (i := 2) rfl)⟩; cases hz) (by decide) (by decide) (hts _ kL_does_13_4) (va_Nw.use rfl (hG.1.2.2.2.1 3)) hce hcv hcl ?_
                                  refine lv_astore (lv' := [(6, .ref q9), (0, .ref mh), (1, .int (13 : Int32)), (2, .int p1), (3, .int p2), (4, .int p3), (5, .int p4)]) hx hb dL_does_337 hl (by decide) rfl (fun ls hl => ?_)
                                  refine lv_ldc (v := -1000000) hx hb hown (hts _ kL_does_13_5) dL_does_339 ?_
                                  refine W.widen (k := 1) (n := 6) (by decide) (by decide) ?_
                                  exact W.iret (v := (-1000000 : Int32)) hx hb hr (fun t ht hW => ⟨⟨(-1000000 : Int32), (ho, ni, mi, mv, nx, nc, nl), rfl, ⟨(by unfold rL_does_13; rw [if_neg c_16, if_neg c_21, if_neg c_22]), (by unfold oL_does_13_ho; rw [if_neg c_16]), (by unfold oL_does_13_ni; rw [if_neg c_16]), (by unfold oL_does_13_mi; rw [if_neg c_16]), (by unfold oL_does_13_mv; rw [if_neg c_16]), (by unfold oL_does_13_nx; rw [if_neg c_16]), (by unfold oL_does_13_nc; rw [if_neg c_16]), (by unfold oL_does_13_nl; rw [if_neg c_16])⟩, (by rw [ht]; exact hP.sub [0, 1, 2, 3, 4, 5, 6, 7, 8, 9] rfl), va_K.moved hW.alike hK, hD.sub [0, 1, 2, 3, 4, 5, 6, 7, 8, 9] (by decide) rfl⟩, hS.F ht⟩) hS.2.2 dL_does_341
                              · try dsimp only [List.cons_append, List.nil_append] at hP hD
                                have hP : va_P (dC, dI) vwCl [(mh, .inr (7, [.ref ca, .ref la, .ref sg, .ref pl, .ref rw, .ref tw, .ref ga, .ref pa, .int (oX7_give_ni ni li mi mv nx al nc nl ki fi se th size on il ba kn ho p1 p2 p3), .int li, .int (oX7_give_mi ni li mi mv nx al nc nl ki fi se th size on il ba kn ho p1 p2 p3), .int (oX7_give_mv ni li mi mv nx al nc nl ki fi se th size on il ba kn ho p1 p2 p3), .int (oX7_give_nx ni li mi mv nx al nc nl ki fi se th size on il ba kn ho p1 p2 p3), .int al, .int (oX7_give_nc ni li mi mv nx al nc nl ki fi se th size on il ba kn ho p1 p2 p3), .int (oX7_give_nl ni li mi mv nx al nc nl ki fi se th size on il ba kn ho p1 p2 p3)])), (ca, .inr (0, [.ref ck, .ref cf, .ref cs, .ref ct, .int size])), (ck, .inl (cI, 12, .inl ki)), (cf, .inl (cI, 12, .inl fi)), (cs, .inl (cI, 12, .inl se)), (ct, .inl (cI, 12, .inl th)), (sg, .inr (5, [.ref lg, .int on, .int il, .int ba])), (lg, .inr (2, [.ref kg, .ref hg])), (kg, .inl (cI, 4, .inl kn)), (hg, .inl (cI, 4, .inl (oX7_give_ho ni li mi mv nx al nc nl ki fi se th size on il ba kn ho p1 p2 p3)))] H := hP
                                have hD : va_D A [(mh, .inr (7, [.ref ca, .ref la, .ref sg, .ref pl, .ref rw, .ref tw, .ref ga, .ref pa, .int (oX7_give_ni ni li mi mv nx al nc nl ki fi se th size on il ba kn ho p1 p2 p3), .int li, .int (oX7_give_mi ni li mi mv nx al nc nl ki fi se th size on il ba kn ho p1 p2 p3), .int (oX7_give_mv ni li mi mv nx al nc nl ki fi se th size on il ba kn ho p1 p2 p3), .int (oX7_give_nx ni li mi mv nx al nc nl ki fi se th size on il ba kn ho p1 p2 p3), .int al, .int (oX7_give_nc ni li mi mv nx al nc nl ki fi se th size on il ba kn ho p1 p2 p3), .int (oX7_give_nl ni li mi mv nx al nc nl ki fi se th size on il ba kn ho p1 p2 p3)])), (ca, .inr (0, [.ref ck, .ref cf, .ref cs, .ref ct, .int size])), (ck, .inl (cI, 12, .inl ki)), (cf, .inl (cI, 12, .inl fi)), (cs, .inl (cI, 12, .inl se)), (ct, .inl (cI, 12, .inl th)), (sg, .inr (5, [.ref lg, .int on, .int il, .int ba])), (lg, .inr (2, [.ref kg, .ref hg])), (kg, .inl (cI, 4, .inl kn)), (hg, .inl (cI, 4, .inl (oX7_give_ho ni li mi mv nx al nc nl ki fi se th size on il ba kn ho p1 p2 p3)))] := hD
                                refine lv_goto (tgt := 326) hx hb dL_does_236 (by decide) ?_
                                refine W.widen (k := 1) (n := 6) (by decide) (by decide) ?_
                                exact W.iret (v := (rX7_give ni li mi mv nx al nc nl ki fi se th size on il ba kn ho p1 p2 p3)) hx hb hr (fun t ht hW => ⟨⟨(rX7_give ni li mi mv nx al nc nl ki fi se th size on il ba kn ho p1 p2 p3), ((oX7_give_ho ni li mi mv nx al nc nl ki fi se th size on il ba kn ho p1 p2 p3), (oX7_give_ni ni li mi mv nx al nc nl ki fi se th size on il ba kn ho p1 p2 p3), (oX7_give_mi ni li mi mv nx al nc nl ki fi se th size on il ba kn ho p1 p2 p3), (oX7_give_mv ni li mi mv nx al nc nl ki fi se th size on il ba kn ho p1 p2 p3), (oX7_give_nx ni li mi mv nx al nc nl ki fi se th size on il ba kn ho p1 p2 p3), (oX7_give_nc ni li mi mv nx al nc nl ki fi se th size on il ba kn ho p1 p2 p3), (oX7_give_nl ni li mi mv nx al nc nl ki fi se th size on il ba kn ho p1 p2 p3)), rfl, ⟨(by unfold rL_does_13; rw [if_pos c_16]), (by unfold oL_does_13_ho; rw [if_pos c_16]), (by unfold oL_does_13_ni; rw [if_pos c_16]), (by unfold oL_does_13_mi; rw [if_pos c_16]), (by unfold oL_does_13_mv; rw [if_pos c_16]), (by unfold oL_does_13_nx; rw [if_pos c_16]), (by unfold oL_does_13_nc; rw [if_pos c_16]), (by unfold oL_does_13_nl; rw [if_pos c_16])⟩, (by rw [ht]; exact hP.sub [0, 1, 2, 3, 4, 5, 6, 7, 8, 9] rfl), va_K.moved hW.alike hK, hD.sub [0, 1, 2, 3, 4, 5, 6, 7, 8, 9] (by decide) rfl⟩, hS.F ht⟩) hS.2.2 dL_does_326
                          · exact absurd c_13 (by decide)
                        · exact absurd c_12 (by decide)
                      · exact absurd c_11 (by decide)
                    · exact absurd c_10 (by decide)
                  · exact absurd c_9 (by decide)
                · exact absurd c_8 (by decide)
              · exact absurd c_7 (by decide)
            · exact absurd c_6 (by decide)
          · exact absurd c_5 (by decide)
        · exact absurd c_4 (by decide)
      · exact absurd c_3 (by decide)
    · exact absurd c_2 (by decide)
  · exact absurd c_1 (by decide)

/-! L_does -/
def rL_does_14 (ni : Int32) (li : Int32) (mi : Int32) (mv : Int32) (nx : Int32) (al : Int32) (nc : Int32) (nl : Int32) (ki : Nat → Int32) (fi : Nat → Int32) (se : Nat → Int32) (th : Nat → Int32) (size : Int32) (on : Int32) (il : Int32) (ba : Int32) (kn : Nat → Int32) (ho : Nat → Int32) (p1 : Int32) (p2 : Int32) (p3 : Int32) (p4 : Int32) : Int32 := (if (xX7_take ni li mi mv nx al nc nl ki fi se th size on il ba kn ho p1 p2) = 0 then (rX7_take ni li mi mv nx al nc nl ki fi se th size on il ba kn ho p1 p2) else (if (xX7_take ni li mi mv nx al nc nl ki fi se th size on il ba kn ho p1 p2) = 1 then (-3000000 : Int32) else (-1000000 : Int32)))
def oL_does_14_ho (ni : Int32) (li : Int32) (mi : Int32) (mv : Int32) (nx : Int32) (al : Int32) (nc : Int32) (nl : Int32) (ki : Nat → Int32) (fi : Nat → Int32) (se : Nat → Int32) (th : Nat → Int32) (size : Int32) (on : Int32) (il : Int32) (ba : Int32) (kn : Nat → Int32) (ho : Nat → Int32) (p1 : Int32) (p2 : Int32) (p3 : Int32) (p4 : Int32) : Nat → Int32 := (if (xX7_take ni li mi mv nx al nc nl ki fi se th size on il ba kn ho p1 p2) = 0 then (oX7_take_ho ni li mi mv nx al nc nl ki fi se th size on il ba kn ho p1 p2) else ho)
def oL_does_14_ni (ni : Int32) (li : Int32) (mi : Int32) (mv : Int32) (nx : Int32) (al : Int32) (nc : Int32) (nl : Int32) (ki : Nat → Int32) (fi : Nat → Int32) (se : Nat → Int32) (th : Nat → Int32) (size : Int32) (on : Int32) (il : Int32) (ba : Int32) (kn : Nat → Int32) (ho : Nat → Int32) (p1 : Int32) (p2 : Int32) (p3 : Int32) (p4 : Int32) : Int32 := (if (xX7_take ni li mi mv nx al nc nl ki fi se th size on il ba kn ho p1 p2) = 0 then (oX7_take_ni ni li mi mv nx al nc nl ki fi se th size on il ba kn ho p1 p2) else ni)
def oL_does_14_mi (ni : Int32) (li : Int32) (mi : Int32) (mv : Int32) (nx : Int32) (al : Int32) (nc : Int32) (nl : Int32) (ki : Nat → Int32) (fi : Nat → Int32) (se : Nat → Int32) (th : Nat → Int32) (size : Int32) (on : Int32) (il : Int32) (ba : Int32) (kn : Nat → Int32) (ho : Nat → Int32) (p1 : Int32) (p2 : Int32) (p3 : Int32) (p4 : Int32) : Int32 := (if (xX7_take ni li mi mv nx al nc nl ki fi se th size on il ba kn ho p1 p2) = 0 then (oX7_take_mi ni li mi mv nx al nc nl ki fi se th size on il ba kn ho p1 p2) else mi)
def oL_does_14_mv (ni : Int32) (li : Int32) (mi : Int32) (mv : Int32) (nx : Int32) (al : Int32) (nc : Int32) (nl : Int32) (ki : Nat → Int32) (fi : Nat → Int32) (se : Nat → Int32) (th : Nat → Int32) (size : Int32) (on : Int32) (il : Int32) (ba : Int32) (kn : Nat → Int32) (ho : Nat → Int32) (p1 : Int32) (p2 : Int32) (p3 : Int32) (p4 : Int32) : Int32 := (if (xX7_take ni li mi mv nx al nc nl ki fi se th size on il ba kn ho p1 p2) = 0 then (oX7_take_mv ni li mi mv nx al nc nl ki fi se th size on il ba kn ho p1 p2) else mv)
def oL_does_14_nx (ni : Int32) (li : Int32) (mi : Int32) (mv : Int32) (nx : Int32) (al : Int32) (nc : Int32) (nl : Int32) (ki : Nat → Int32) (fi : Nat → Int32) (se : Nat → Int32) (th : Nat → Int32) (size : Int32) (on : Int32) (il : Int32) (ba : Int32) (kn : Nat → Int32) (ho : Nat → Int32) (p1 : Int32) (p2 : Int32) (p3 : Int32) (p4 : Int32) : Int32 := (if (xX7_take ni li mi mv nx al nc nl ki fi se th size on il ba kn ho p1 p2) = 0 then (oX7_take_nx ni li mi mv nx al nc nl ki fi se th size on il ba kn ho p1 p2) else nx)
def oL_does_14_nc (ni : Int32) (li : Int32) (mi : Int32) (mv : Int32) (nx : Int32) (al : Int32) (nc : Int32) (nl : Int32) (ki : Nat → Int32) (fi : Nat → Int32) (se : Nat → Int32) (th : Nat → Int32) (size : Int32) (on : Int32) (il : Int32) (ba : Int32) (kn : Nat → Int32) (ho : Nat → Int32) (p1 : Int32) (p2 : Int32) (p3 : Int32) (p4 : Int32) : Int32 := (if (xX7_take ni li mi mv nx al nc nl ki fi se th size on il ba kn ho p1 p2) = 0 then (oX7_take_nc ni li mi mv nx al nc nl ki fi se th size on il ba kn ho p1 p2) else nc)
def oL_does_14_nl (ni : Int32) (li : Int32) (mi : Int32) (mv : Int32) (nx : Int32) (al : Int32) (nc : Int32) (nl : Int32) (ki : Nat → Int32) (fi : Nat → Int32) (se : Nat → Int32) (th : Nat → Int32) (size : Int32) (on : Int32) (il : Int32) (ba : Int32) (kn : Nat → Int32) (ho : Nat → Int32) (p1 : Int32) (p2 : Int32) (p3 : Int32) (p4 : Int32) : Int32 := (if (xX7_take ni li mi mv nx al nc nl ki fi se th size on il ba kn ho p1 p2) = 0 then (oX7_take_nl ni li mi mv nx al nc nl ki fi se th size on il ba kn ho p1 p2) else nl)
set_option maxRecDepth 20000 in
theorem kL_does_14_0 : Cond.classLink RL 82 "java/lang/IndexOutOfBoundsException" ∈ wsL_does := by decide +kernel
set_option maxRecDepth 20000 in
theorem kL_does_14_1 : Cond.constant RL 84 (-3000000) ∈ wsL_does := by decide +kernel
set_option maxRecDepth 20000 in
theorem kL_does_14_2 : Cond.classLink RL 85 "java/lang/IllegalArgumentException" ∈ wsL_does := by decide +kernel
set_option maxRecDepth 20000 in
theorem kL_does_14_3 : Cond.classLink RL 88 "java/lang/IllegalStateException" ∈ wsL_does := by decide +kernel
set_option maxRecDepth 20000 in
theorem kL_does_14_4 : Cond.constant RL 90 (-1000000) ∈ wsL_does := by decide +kernel
set_option maxHeartbeats 1360000 in
set_option maxRecDepth 100000 in
theorem c_L_does_14 (l : Launch) (hfl : l.stackTraces = false) (dC : Nat → ClassId) (dI : Nat → Nat → Nat) (cI cJ : ClassId) (mh ca ck cf cs ct sg lg kg hg la pl rw tw ga pa : Nat) (sz : Nat) (ni : Int32) (li : Int32) (mi : Int32) (mv : Int32) (nx : Int32) (al : Int32) (nc : Int32) (nl : Int32) (ki : Nat → Int32) (fi : Nat → Int32) (se : Nat → Int32) (th : Nat → Int32) (size : Int32) (on : Int32) (il : Int32) (ba : Int32) (kn : Nat → Int32) (ho : Nat → Int32) (p1 : Int32) (p2 : Int32) (p3 : Int32) (p4 : Int32) : Met l yL_does wsL_does ({ frames := 8, cells := 1, slots := 6, locals := 125 }) (va_Pc [.ref mh, .int (14 : Int32), .int p1, .int p2, .int p3, .int p4] (zI (dC, dI) [(cI, .int), (cJ, .long)] [(mh, .inr (7, [.ref ca, .ref la, .ref sg, .ref pl, .ref rw, .ref tw, .ref ga, .ref pa, .int ni, .int li, .int mi, .int mv, .int nx, .int al, .int nc, .int nl])), (ca, .inr (0, [.ref ck, .ref cf, .ref cs, .ref ct, .int size])), (ck, .inl (cI, 12, .inl ki)), (cf, .inl (cI, 12, .inl fi)), (cs, .inl (cI, 12, .inl se)), (ct, .inl (cI, 12, .inl th)), (sg, .inr (5, [.ref lg, .int on, .int il, .int ba])), (lg, .inr (2, [.ref kg, .ref hg])), (kg, .inl (cI, 4, .inl kn)), (hg, .inl (cI, 4, .inl ho))] sz)) (va_Qi (fun (r : Int32) (u : (Nat → Int32) × (Int32) × (Int32) × (Int32) × (Int32) × (Int32) × (Int32)) => r = rL_does_14 ni li mi mv nx al nc nl ki fi se th size on il ba kn ho p1 p2 p3 p4 ∧ u.1 = oL_does_14_ho ni li mi mv nx al nc nl ki fi se th size on il ba kn ho p1 p2 p3 p4 ∧ u.2.1 = oL_does_14_ni ni li mi mv nx al nc nl ki fi se th size on il ba kn ho p1 p2 p3 p4 ∧ u.2.2.1 = oL_does_14_mi ni li mi mv nx al nc nl ki fi se th size on il ba kn ho p1 p2 p3 p4 ∧ u.2.2.2.1 = oL_does_14_mv ni li mi mv nx al nc nl ki fi se th size on il ba kn ho p1 p2 p3 p4 ∧ u.2.2.2.2.1 = oL_does_14_nx ni li mi mv nx al nc nl ki fi se th size on il ba kn ho p1 p2 p3 p4 ∧ u.2.2.2.2.2.1 = oL_does_14_nc ni li mi mv nx al nc nl ki fi se th size on il ba kn ho p1 p2 p3 p4 ∧ u.2.2.2.2.2.2 = oL_does_14_nl ni li mi mv nx al nc nl ki fi se th size on il ba kn ho p1 p2 p3 p4) (fun u => zO (dC, dI) [(cI, .int), (cJ, .long)] [(mh, .inr (7, [.ref ca, .ref la, .ref sg, .ref pl, .ref rw, .ref tw, .ref ga, .ref pa, .int u.2.1, .int li, .int u.2.2.1, .int u.2.2.2.1, .int u.2.2.2.2.1, .int al, .int u.2.2.2.2.2.1, .int u.2.2.2.2.2.2])), (ca, .inr (0, [.ref ck, .ref cf, .ref cs, .ref ct, .int size])), (ck, .inl (cI, 12, .inl ki)), (cf, .inl (cI, 12, .inl fi)), (cs, .inl (cI, 12, .inl se)), (ct, .inl (cI, 12, .inl th)), (sg, .inr (5, [.ref lg, .int on, .int il, .int ba])), (lg, .inr (2, [.ref kg, .ref hg])), (kg, .inl (cI, 4, .inl kn)), (hg, .inl (cI, 4, .inl u.1))] (va_A [(mh, .inr (7, [.ref ca, .ref la, .ref sg, .ref pl, .ref rw, .ref tw, .ref ga, .ref pa, .int ni, .int li, .int mi, .int mv, .int nx, .int al, .int nc, .int nl])), (ca, .inr (0, [.ref ck, .ref cf, .ref cs, .ref ct, .int size])), (ck, .inl (cI, 12, .inl ki)), (cf, .inl (cI, 12, .inl fi)), (cs, .inl (cI, 12, .inl se)), (ct, .inl (cI, 12, .inl th)), (sg, .inr (5, [.ref lg, .int on, .int il, .int ba])), (lg, .inr (2, [.ref kg, .ref hg])), (kg, .inl (cI, 4, .inl kn)), (hg, .inl (cI, 4, .inl ho))] sz)) (va_A [(mh, .inr (7, [.ref ca, .ref la, .ref sg, .ref pl, .ref rw, .ref tw, .ref ga, .ref pa, .int ni, .int li, .int mi, .int mv, .int nx, .int al, .int nc, .int nl])), (ca, .inr (0, [.ref ck, .ref cf, .ref cs, .ref ct, .int size])), (ck, .inl (cI, 12, .inl ki)), (cf, .inl (cI, 12, .inl fi)), (cs, .inl (cI, 12, .inl se)), (ct, .inl (cI, 12, .inl th)), (sg, .inr (5, [.ref lg, .int on, .int il, .int ba])), (lg, .inr (2, [.ref kg, .ref hg])), (kg, .inl (cI, 4, .inl kn)), (hg, .inl (cI, 4, .inl ho))] sz)) 1 6 (va_A [(mh, .inr (7, [.ref ca, .ref la, .ref sg, .ref pl, .ref rw, .ref tw, .ref ga, .ref pa, .int ni, .int li, .int mi, .int mv, .int nx, .int al, .int nc, .int nl])), (ca, .inr (0, [.ref ck, .ref cf, .ref cs, .ref ct, .int size])), (ck, .inl (cI, 12, .inl ki)), (cf, .inl (cI, 12, .inl fi)), (cs, .inl (cI, 12, .inl se)), (ct, .inl (cI, 12, .inl th)), (sg, .inr (5, [.ref lg, .int on, .int il, .int ba])), (lg, .inr (2, [.ref kg, .ref hg])), (kg, .inl (cI, 4, .inl kn)), (hg, .inl (cI, 4, .inl ho))] sz) := by
  refine va_MetW (cc := cL_does) (maxL := 7) (ret := (some .int)) (by decide) rfl ?_
  intro p e s m args below meth c s₁ B hml hv
  obtain ⟨rfl, hsz, hP, hK, hD0, hG⟩ := hv
  have hx := B.exec
  have hb := B.bytes
  have hr := B.returns
  have hts := atoms_spec (ws := wsL_does) B.pre
  have hown : s.vm.findClass RL = some m.cls := findClass_of_methodNamed B.named
  have hlocks := B.notSynchronized
  have htab := vx_table (x := yL_does) (y := yL_does) B (hts _ List.mem_cons_self)
  subst hsz
  have hD := hD0.self (sz := s.heap.size)
  generalize hAe : va_A [(mh, .inr (7, [.ref ca, .ref la, .ref sg, .ref pl, .ref rw, .ref tw, .ref ga, .ref pa, .int ni, .int li, .int mi, .int mv, .int nx, .int al, .int nc, .int nl])), (ca, .inr (0, [.ref ck, .ref cf, .ref cs, .ref ct, .int size])), (ck, .inl (cI, 12, .inl ki)), (cf, .inl (cI, 12, .inl fi)), (cs, .inl (cI, 12, .inl se)), (ct, .inl (cI, 12, .inl th)), (sg, .inr (5, [.ref lg, .int on, .int il, .int ba])), (lg, .inr (2, [.ref kg, .ref hg])), (kg, .inl (cI, 4, .inl kn)), (hg, .inl (cI, 4, .inl ho))] s.heap.size = A at hD hG ⊢
  have hA : ∀ q : Nat, s.heap.size ≤ q → A q := fun q h => by rw [← hAe]; exact Or.inr h
  have hS : va_S A s.heap s.heap [] := va_S.rf
  have hP : va_P (dC, dI) vwCl [(mh, .inr (7, [.ref ca, .ref la, .ref sg, .ref pl, .ref rw, .ref tw, .ref ga, .ref pa, .int ni, .int li, .int mi, .int mv, .int nx, .int al, .int nc, .int nl])), (ca, .inr (0, [.ref ck, .ref cf, .ref cs, .ref ct, .int size])), (ck, .inl (cI, 12, .inl ki)), (cf, .inl (cI, 12, .inl fi)), (cs, .inl (cI, 12, .inl se)), (ct, .inl (cI, 12, .inl th)), (sg, .inr (5, [.ref lg, .int on, .int il, .int ba])), (lg, .inr (2, [.ref kg, .ref hg])), (kg, .inl (cI, 4, .inl kn)), (hg, .inl (cI, 4, .inl ho))] s.heap := hP
  have hl := lv_entry ([.ref mh, .int (14 : Int32), .int p1, .int p2, .int p3, .int p4]) (n := 7) (Nat.le_of_ble_eq_true rfl)
  rw [lg_entry_eq]
  generalize (lg_sl ([.ref mh, .int (14 : Int32), .int p1, .int p2, .int p3, .int p4]) ++ List.replicate (7 - (lg_sl ([.ref mh, .int (14 : Int32), .int p1, .int p2, .int p3, .int p4])).length) Slot.unset).toArray = ls at hl ⊢
  have hl : lv_has ls 7 [(0, .ref mh), (1, .int (14 : Int32)), (2, .int p1), (3, .int p2), (4, .int p3), (5, .int p4)] := hl
  refine lv_iload_n hx hb dL_does_0 rfl (lv_at hl 1 rfl) ?_
  refine lv_if_ne (tgt := 32) hx hb dL_does_1 (by decide) (fun c_1 => ?_) (fun c_1 => ?_)
  · refine lv_iload_n hx hb dL_does_32 rfl (lv_at hl 1 rfl) ?_
    refine lv_iconst (v := 1) hx hb dL_does_33 (by decide) ?_
    refine lv_icmp_ne (tgt := 46) hx hb dL_does_34 (by decide) (fun c_2 => ?_) (fun c_2 => ?_)
    · refine lv_iload_n hx hb dL_does_46 rfl (lv_at hl 1 rfl) ?_
      refine lv_iconst (v := 2) hx hb dL_does_47 (by decide) ?_
      refine lv_icmp_ne (tgt := 64) hx hb dL_does_48 (by decide) (fun c_3 => ?_) (fun c_3 => ?_)
      · refine lv_iload_n hx hb dL_does_64 rfl (lv_at hl 1 rfl) ?_
        refine lv_iconst (v := 3) hx hb dL_does_65 (by decide) ?_
        refine lv_icmp_ne (tgt := 76) hx hb dL_does_66 (by decide) (fun c_4 => ?_) (fun c_4 => ?_)
        · refine lv_iload_n hx hb dL_does_76 rfl (lv_at hl 1 rfl) ?_
          refine lv_iconst (v := 4) hx hb dL_does_77 (by decide) ?_
          refine lv_icmp_ne (tgt := 97) hx hb dL_does_78 (by decide) (fun c_5 => ?_) (fun c_5 => ?_)
          · refine lv_iload_n hx hb dL_does_97 rfl (lv_at hl 1 rfl) ?_
            refine lv_iconst (v := 5) hx hb dL_does_98 (by decide) ?_
            refine lv_icmp_ne (tgt := 118) hx hb dL_does_99 (by decide) (fun c_6 => ?_) (fun c_6 => ?_)
            · refine lv_iload_n hx hb dL_does_118 rfl (lv_at hl 1 rfl) ?_
              refine lv_bipush (v := 6) hx hb dL_does_119 (by decide) ?_
              refine lv_icmp_ne (tgt := 131) hx hb dL_does_121 (by decide) (fun c_7 => ?_) (fun c_7 => ?_)
              · refine lv_iload_n hx hb dL_does_131 rfl (lv_at hl 1 rfl) ?_
                refine lv_bipush (v := 7) hx hb dL_does_132 (by decide) ?_
                refine lv_icmp_ne (tgt := 148) hx hb dL_does_134 (by decide) (fun c_8 => ?_) (fun c_8 => ?_)
                · refine lv_iload_n hx hb dL_does_148 rfl (lv_at hl 1 rfl) ?_
                  refine lv_bipush (v := 8) hx hb dL_does_149 (by decide) ?_
                  refine lv_icmp_ne (tgt := 163) hx hb dL_does_151 (by decide) (fun c_9 => ?_) (fun c_9 => ?_)
                  · refine lv_iload_n hx hb dL_does_163 rfl (lv_at hl 1 rfl) ?_
                    refine lv_bipush (v := 9) hx hb dL_does_164 (by decide) ?_
                    refine lv_icmp_ne (tgt := 177) hx hb dL_does_166 (by decide) (fun c_10 => ?_) (fun c_10 => ?_)
                    · refine lv_iload_n hx hb dL_does_177 rfl (lv_at hl 1 rfl) ?_
                      refine lv_bipush (v := 10) hx hb dL_does_178 (by decide) ?_
                      refine lv_icmp_ne (tgt := 191) hx hb dL_does_180 (by decide) (fun c_11 => ?_) (fun c_11 => ?_)
                      · refine lv_iload_n hx hb dL_does_191 rfl (lv_at hl 1 rfl) ?_
                        refine lv_bipush (v := 11) hx hb dL_does_192 (by decide) ?_
                        refine lv_icmp_ne (tgt := 205) hx hb dL_does_194 (by decide) (fun c_12 => ?_) (fun c_12 => ?_)
                        · refine lv_iload_n hx hb dL_does_205 rfl (lv_at hl 1 rfl) ?_
                          refine lv_bipush (v := 12) hx hb dL_does_206 (by decide) ?_
                          refine lv_icmp_ne (tgt := 222) hx hb dL_does_208 (by decide) (fun c_13 => ?_) (fun c_13 => ?_)
                          · refine lv_iload_n hx hb dL_does_222 rfl (lv_at hl 1 rfl) ?_
                            refine lv_bipush (v := 13) hx hb dL_does_223 (by decide) ?_
                            refine lv_icmp_ne (tgt := 239) hx hb dL_does_225 (by decide) (fun c_14 => ?_) (fun c_14 => ?_)
                            · refine lv_iload_n hx hb dL_does_239 rfl (lv_at hl 1 rfl) ?_
                              refine lv_bipush (v := 14) hx hb dL_does_240 (by decide) ?_
                              refine lv_icmp_ne (tgt := 254) hx hb dL_does_242 (by decide) (fun c_15 => ?_) (fun c_15 => ?_)
                              · exact absurd (show (14 : Int32) = (14 : Int32) from by decide) c_15
                              · refine lv_aload_n hx hb dL_does_245 rfl (lv_at hl 0 rfl) ?_
                                refine lv_iload_n hx hb dL_does_246 rfl (lv_at hl 2 rfl) ?_
                                refine lv_iload_n hx hb dL_does_247 rfl (lv_at hl 3 rfl) ?_
                                refine zxI (wr := []) (px := fun k9 => (xX7_take ni li mi mv nx al nc nl ki fi se th size on il ba kn ho p1 p2) = k9 ∧ k9 ≠ 0) (P0 := (xX7_take ni li mi mv nx al nc nl ki fi se th size on il ba kn ho p1 p2) = 0) (r0 := (rX7_take ni li mi mv nx al nc nl ki fi se th size on il ba kn ho p1 p2)) (u0 := ((oX7_take_ho ni li mi mv nx al nc nl ki fi se th size on il ba kn ho p1 p2), (oX7_take_ni ni li mi mv nx al nc nl ki fi se th size on il ba kn ho p1 p2), (oX7_take_mi ni li mi mv nx al nc nl ki fi se th size on il ba kn ho p1 p2), (oX7_take_mv ni li mi mv nx al nc nl ki fi se th size on il ba kn ho p1 p2), (oX7_take_nx ni li mi mv nx al nc nl ki fi se th size on il ba kn ho p1 p2), (oX7_take_nc ni li mi mv nx al nc nl ki fi se th size on il ba kn ho p1 p2), (oX7_take_nl ni li mi mv nx al nc nl ki fi se th size on il ba kn ho p1 p2))) (vx_runV (As := [.int p1, .int p2]) (rest := []) ⟨hx, hb, hml, hown, hts⟩ (c_X7_take l hfl dC dI cI cJ mh ca ck cf cs ct sg lg kg hg la pl rw tw ga pa s.heap.size ni li mi mv nx al nc nl ki fi se th size on il ba kn ho p1 p2 ) (cwV 2 hts gL_does_X7_take rfl rfl rfl (by decide +kernel) ⟨Nat.le_of_ble_eq_true rfl, Nat.le_of_ble_eq_true rfl⟩) (zpV hK hP hD hS hA hG [0, 1, 2, 3, 4, 5, 6, 7, 8, 9] (by decide) rfl 7 0 rfl rfl) rfl rfl hl.1 rfl (lv_room (Nat.le_of_ble_eq_true rfl)) dL_does_248 ⟨Nat.le_of_ble_eq_true rfl, Nat.le_of_ble_eq_true rfl⟩) (fun r u h => ⟨h.1, h.2.1, zT7 h.2.2.1 h.2.2.2.1 h.2.2.2.2.1 h.2.2.2.2.2.1 h.2.2.2.2.2.2.1 h.2.2.2.2.2.2.2.1 h.2.2.2.2.2.2.2.2⟩) hP hD hS hA [0, 1, 2, 3, 4, 5, 6, 7, 8, 9] [] rfl rfl (by decide) (by decide) (fun k9 ce q9 H locs hw_16 hP hS hce hcv hcl => ?_) (fun H locs c_17 hP hD hS => ?_)
                                · have hk9 : k9 = 1 ∨ k9 = 3 := by have h := bxX7_take ni li mi mv nx al nc nl ki fi se th size on il ba kn ho p1 p2; omega
                                  rcases hk9 with rfl | rfl
                                  · have c_17 : ¬ (xX7_take ni li mi mv nx al nc nl ki fi se th size on il ba kn ho p1 p2) = 0 := by rw [hw_16.1]; decide
                                    have c_18 : (xX7_take ni li mi mv nx al nc nl ki fi se th size on il ba kn ho p1 p2) = 1 := hw_16.1
                                    refine vx_catch (name := zXn 1) hown [] ⟨0, 326, 327, 82⟩ [⟨0, 326, 332, 85⟩, ⟨0, 326, 337, 88⟩] htab (fun z hz => by cases hz) (by decide) (by decide) (hts _ kL_does_14_0) (va_Nw.use rfl (hG.1.2.2.2.1 1)) hce hcv hcl ?_
                                    refine lv_astore (lv' := [(6, .ref q9), (0, .ref mh), (1, .int (14 : Int32)), (2, .int p1), (3, .int p2), (4, .int p3), (5, .int p4)]) hx hb dL_does_327 hl (by decide) rfl (fun ls hl => ?_)
                                    refine lv_ldc (v := -3000000) hx hb hown (hts _ kL_does_14_1) dL_does_329 ?_
                                    refine W.widen (k := 1) (n := 6) (by decide) (by decide) ?_
                                    exact W.iret (v := (-3000000 : Int32)) hx hb hr (fun t ht hW => ⟨⟨(-3000000 : Int32), (ho, ni, mi, mv, nx, nc, nl), rfl, ⟨(by unfold rL_does_14; rw [if_neg c_17, if_pos c_18]), (by unfold oL_does_14_ho; rw [if_neg c_17]), (by unfold oL_does_14_ni; rw [if_neg c_17]), (by unfold oL_does_14_mi; rw [if_neg c_17]), (by unfold oL_does_14_mv; rw [if_neg c_17]), (by unfold oL_does_14_nx; rw [if_neg c_17]), (by unfold oL_does_14_nc; rw [if_neg c_17]), (by unfold oL_does_14_nl; rw [if_neg c_17])⟩, (by rw [ht]; exact hP.sub [0, 1, 2, 3, 4, 5, 6, 7, 8, 9] rfl), va_K.moved hW.alike hK, hD.sub [0, 1, 2, 3, 4, 5, 6, 7, 8, 9] (by decide) rfl⟩, hS.F ht⟩) hS.2.2 dL_does_331
                                  · have c_17 : ¬ (xX7_take ni li mi mv nx al nc nl ki fi se th size on il ba kn ho p1 p2) = 0 := by rw [hw_16.1]; decide
                                    have c_20 : ¬ (xX7_take ni li mi mv nx al nc nl ki fi se th size on il ba kn ho p1 p2) = 1 := by rw [hw_16.1]; decide
                                    have c_19 : (xX7_take ni li mi mv nx al nc nl ki fi se th size on il ba kn ho p1 p2) = 3 := hw_16.1
                                    refine vx_catch (name := zXn 3) hown [⟨0, 326, 327, 82⟩, ⟨0, 326, 332, 85⟩] ⟨0, 326, 337, 88⟩ [] htab (fun z hz => by rcases (List.mem_cons.mp hz) with rfl | hz; exact Or.inr ⟨by decide, _, (hts _ kL_does_14_0), hG.1.2.2.1 _ (List.mem_of_getElem? (i := 1) rfl)⟩; rcases (List.mem_cons.mp hz) with rfl | hz; exact Or.inr ⟨by decide, _, (hts _ kL_does_14_2), hG.1.2.2.1 _ (List.mem_of_getElem? (i := 2) rfl)⟩; cases hz) (by decide) (by decide) (hts _ kL_does_14_3) (va_Nw.use rfl (hG.1.2.2.2.1 3)) hce hcv hcl ?_
                                    refine lv_astore (lv' := [(6, .ref q9), (0, .ref mh), (1, .int (14 : Int32)), (2, .int p1), (3, .int p2), (4, .int p3), (5, .int p4)]) hx hb dL_does_337 hl (by decide) rfl (fun ls hl => ?_)
                                    refine lv_ldc (v := -1000000) hx hb hown (hts _ kL_does_14_4) dL_does_339 ?_
                                    refine W.widen (k := 1) (n := 6) (by decide) (by decide) ?_
                                    exact W.iret (v := (-1000000 : Int32)) hx hb hr (fun t ht hW => ⟨⟨(-1000000 : Int32), (ho, ni, mi, mv, nx, nc, nl), rfl, ⟨(by unfold rL_does_14; rw [if_neg c_17, if_neg c_20]), (by unfold oL_does_14_ho; rw [if_neg c_17]), (by unfold oL_does_14_ni; rw [if_neg c_17]), (by unfold oL_does_14_mi; rw [if_neg c_17]), (by unfold oL_does_14_mv; rw [if_neg c_17]), (by unfold oL_does_14_nx; rw [if_neg c_17]), (by unfold oL_does_14_nc; rw [if_neg c_17]), (by unfold oL_does_14_nl; rw [if_neg c_17])⟩, (by rw [ht]; exact hP.sub [0, 1, 2, 3, 4, 5, 6, 7, 8, 9] rfl), va_K.moved hW.alike hK, hD.sub [0, 1, 2, 3, 4, 5, 6, 7, 8, 9] (by decide) rfl⟩, hS.F ht⟩) hS.2.2 dL_does_341
                                · try dsimp only [List.cons_append, List.nil_append] at hP hD
                                  have hP : va_P (dC, dI) vwCl [(mh, .inr (7, [.ref ca, .ref la, .ref sg, .ref pl, .ref rw, .ref tw, .ref ga, .ref pa, .int (oX7_take_ni ni li mi mv nx al nc nl ki fi se th size on il ba kn ho p1 p2), .int li, .int (oX7_take_mi ni li mi mv nx al nc nl ki fi se th size on il ba kn ho p1 p2), .int (oX7_take_mv ni li mi mv nx al nc nl ki fi se th size on il ba kn ho p1 p2), .int (oX7_take_nx ni li mi mv nx al nc nl ki fi se th size on il ba kn ho p1 p2), .int al, .int (oX7_take_nc ni li mi mv nx al nc nl ki fi se th size on il ba kn ho p1 p2), .int (oX7_take_nl ni li mi mv nx al nc nl ki fi se th size on il ba kn ho p1 p2)])), (ca, .inr (0, [.ref ck, .ref cf, .ref cs, .ref ct, .int size])), (ck, .inl (cI, 12, .inl ki)), (cf, .inl (cI, 12, .inl fi)), (cs, .inl (cI, 12, .inl se)), (ct, .inl (cI, 12, .inl th)), (sg, .inr (5, [.ref lg, .int on, .int il, .int ba])), (lg, .inr (2, [.ref kg, .ref hg])), (kg, .inl (cI, 4, .inl kn)), (hg, .inl (cI, 4, .inl (oX7_take_ho ni li mi mv nx al nc nl ki fi se th size on il ba kn ho p1 p2)))] H := hP
                                  have hD : va_D A [(mh, .inr (7, [.ref ca, .ref la, .ref sg, .ref pl, .ref rw, .ref tw, .ref ga, .ref pa, .int (oX7_take_ni ni li mi mv nx al nc nl ki fi se th size on il ba kn ho p1 p2), .int li, .int (oX7_take_mi ni li mi mv nx al nc nl ki fi se th size on il ba kn ho p1 p2), .int (oX7_take_mv ni li mi mv nx al nc nl ki fi se th size on il ba kn ho p1 p2), .int (oX7_take_nx ni li mi mv nx al nc nl ki fi se th size on il ba kn ho p1 p2), .int al, .int (oX7_take_nc ni li mi mv nx al nc nl ki fi se th size on il ba kn ho p1 p2), .int (oX7_take_nl ni li mi mv nx al nc nl ki fi se th size on il ba kn ho p1 p2)])), (ca, .inr (0, [.ref ck, .ref cf, .ref cs, .ref ct, .int size])), (ck, .inl (cI, 12, .inl ki)), (cf, .inl (cI, 12, .inl fi)), (cs, .inl (cI, 12, .inl se)), (ct, .inl (cI, 12, .inl th)), (sg, .inr (5, [.ref lg, .int on, .int il, .int ba])), (lg, .inr (2, [.ref kg, .ref hg])), (kg, .inl (cI, 4, .inl kn)), (hg, .inl (cI, 4, .inl (oX7_take_ho ni li mi mv nx al nc nl ki fi se th size on il ba kn ho p1 p2)))] := hD
                                  refine lv_goto (tgt := 326) hx hb dL_does_251 (by decide) ?_
                                  refine W.widen (k := 1) (n := 6) (by decide) (by decide) ?_
                                  exact W.iret (v := (rX7_take ni li mi mv nx al nc nl ki fi se th size on il ba kn ho p1 p2)) hx hb hr (fun t ht hW => ⟨⟨(rX7_take ni li mi mv nx al nc nl ki fi se th size on il ba kn ho p1 p2), ((oX7_take_ho ni li mi mv nx al nc nl ki fi se th size on il ba kn ho p1 p2), (oX7_take_ni ni li mi mv nx al nc nl ki fi se th size on il ba kn ho p1 p2), (oX7_take_mi ni li mi mv nx al nc nl ki fi se th size on il ba kn ho p1 p2), (oX7_take_mv ni li mi mv nx al nc nl ki fi se th size on il ba kn ho p1 p2), (oX7_take_nx ni li mi mv nx al nc nl ki fi se th size on il ba kn ho p1 p2), (oX7_take_nc ni li mi mv nx al nc nl ki fi se th size on il ba kn ho p1 p2), (oX7_take_nl ni li mi mv nx al nc nl ki fi se th size on il ba kn ho p1 p2)), rfl, ⟨(by unfold rL_does_14; rw [if_pos c_17]), (by unfold oL_does_14_ho; rw [if_pos c_17]), (by unfold oL_does_14_ni; rw [if_pos c_17]), (by unfold oL_does_14_mi; rw [if_pos c_17]), (by unfold oL_does_14_mv; rw [if_pos c_17]), (by unfold oL_does_14_nx; rw [if_pos c_17]), (by unfold oL_does_14_nc; rw [if_pos c_17]), (by unfold oL_does_14_nl; rw [if_pos c_17])⟩, (by rw [ht]; exact hP.sub [0, 1, 2, 3, 4, 5, 6, 7, 8, 9] rfl), va_K.moved hW.alike hK, hD.sub [0, 1, 2, 3, 4, 5, 6, 7, 8, 9] (by decide) rfl⟩, hS.F ht⟩) hS.2.2 dL_does_326
                            · exact absurd c_14 (by decide)
                          · exact absurd c_13 (by decide)
                        · exact absurd c_12 (by decide)
                      · exact absurd c_11 (by decide)
                    · exact absurd c_10 (by decide)
                  · exact absurd c_9 (by decide)
                · exact absurd c_8 (by decide)
              · exact absurd c_7 (by decide)
            · exact absurd c_6 (by decide)
          · exact absurd c_5 (by decide)
        · exact absurd c_4 (by decide)
      · exact absurd c_3 (by decide)
    · exact absurd c_2 (by decide)
  · exact absurd c_1 (by decide)

/-! L_does -/
def rL_does_15 (ni : Int32) (li : Int32) (mi : Int32) (mv : Int32) (nx : Int32) (al : Int32) (nc : Int32) (nl : Int32) (ki : Nat → Int32) (fi : Nat → Int32) (se : Nat → Int32) (th : Nat → Int32) (size : Int32) (on : Int32) (il : Int32) (ba : Int32) (p1 : Int32) (p2 : Int32) (p3 : Int32) (p4 : Int32) : Int32 := (if (xX7_greet ni li mi mv nx al nc nl ki fi se th size on il ba p1 p2) = 0 then (rX7_greet ni li mi mv nx al nc nl ki fi se th size on il ba p1 p2) else (if (xX7_greet ni li mi mv nx al nc nl ki fi se th size on il ba p1 p2) = 1 then (-3000000 : Int32) else (if (xX7_greet ni li mi mv nx al nc nl ki fi se th size on il ba p1 p2) = 2 then (-2000000 : Int32) else (-1000000 : Int32))))
def oL_does_15_ni (ni : Int32) (li : Int32) (mi : Int32) (mv : Int32) (nx : Int32) (al : Int32) (nc : Int32) (nl : Int32) (ki : Nat → Int32) (fi : Nat → Int32) (se : Nat → Int32) (th : Nat → Int32) (size : Int32) (on : Int32) (il : Int32) (ba : Int32) (p1 : Int32) (p2 : Int32) (p3 : Int32) (p4 : Int32) : Int32 := (if (xX7_greet ni li mi mv nx al nc nl ki fi se th size on il ba p1 p2) = 0 then (oX7_greet_ni ni li mi mv nx al nc nl ki fi se th size on il ba p1 p2) else ni)
def oL_does_15_mi (ni : Int32) (li : Int32) (mi : Int32) (mv : Int32) (nx : Int32) (al : Int32) (nc : Int32) (nl : Int32) (ki : Nat → Int32) (fi : Nat → Int32) (se : Nat → Int32) (th : Nat → Int32) (size : Int32) (on : Int32) (il : Int32) (ba : Int32) (p1 : Int32) (p2 : Int32) (p3 : Int32) (p4 : Int32) : Int32 := (if (xX7_greet ni li mi mv nx al nc nl ki fi se th size on il ba p1 p2) = 0 then (oX7_greet_mi ni li mi mv nx al nc nl ki fi se th size on il ba p1 p2) else mi)
def oL_does_15_mv (ni : Int32) (li : Int32) (mi : Int32) (mv : Int32) (nx : Int32) (al : Int32) (nc : Int32) (nl : Int32) (ki : Nat → Int32) (fi : Nat → Int32) (se : Nat → Int32) (th : Nat → Int32) (size : Int32) (on : Int32) (il : Int32) (ba : Int32) (p1 : Int32) (p2 : Int32) (p3 : Int32) (p4 : Int32) : Int32 := (if (xX7_greet ni li mi mv nx al nc nl ki fi se th size on il ba p1 p2) = 0 then (oX7_greet_mv ni li mi mv nx al nc nl ki fi se th size on il ba p1 p2) else mv)
def oL_does_15_nx (ni : Int32) (li : Int32) (mi : Int32) (mv : Int32) (nx : Int32) (al : Int32) (nc : Int32) (nl : Int32) (ki : Nat → Int32) (fi : Nat → Int32) (se : Nat → Int32) (th : Nat → Int32) (size : Int32) (on : Int32) (il : Int32) (ba : Int32) (p1 : Int32) (p2 : Int32) (p3 : Int32) (p4 : Int32) : Int32 := (if (xX7_greet ni li mi mv nx al nc nl ki fi se th size on il ba p1 p2) = 0 then (oX7_greet_nx ni li mi mv nx al nc nl ki fi se th size on il ba p1 p2) else nx)
def oL_does_15_nc (ni : Int32) (li : Int32) (mi : Int32) (mv : Int32) (nx : Int32) (al : Int32) (nc : Int32) (nl : Int32) (ki : Nat → Int32) (fi : Nat → Int32) (se : Nat → Int32) (th : Nat → Int32) (size : Int32) (on : Int32) (il : Int32) (ba : Int32) (p1 : Int32) (p2 : Int32) (p3 : Int32) (p4 : Int32) : Int32 := (if (xX7_greet ni li mi mv nx al nc nl ki fi se th size on il ba p1 p2) = 0 then (oX7_greet_nc ni li mi mv nx al nc nl ki fi se th size on il ba p1 p2) else nc)
def oL_does_15_nl (ni : Int32) (li : Int32) (mi : Int32) (mv : Int32) (nx : Int32) (al : Int32) (nc : Int32) (nl : Int32) (ki : Nat → Int32) (fi : Nat → Int32) (se : Nat → Int32) (th : Nat → Int32) (size : Int32) (on : Int32) (il : Int32) (ba : Int32) (p1 : Int32) (p2 : Int32) (p3 : Int32) (p4 : Int32) : Int32 := (if (xX7_greet ni li mi mv nx al nc nl ki fi se th size on il ba p1 p2) = 0 then (oX7_greet_nl ni li mi mv nx al nc nl ki fi se th size on il ba p1 p2) else nl)
set_option maxRecDepth 20000 in
theorem kL_does_15_0 : Cond.classLink RL 82 "java/lang/IndexOutOfBoundsException" ∈ wsL_does := by decide +kernel
set_option maxRecDepth 20000 in
theorem kL_does_15_1 : Cond.constant RL 84 (-3000000) ∈ wsL_does := by decide +kernel
set_option maxRecDepth 20000 in
theorem kL_does_15_2 : Cond.classLink RL 85 "java/lang/IllegalArgumentException" ∈ wsL_does := by decide +kernel
set_option maxRecDepth 20000 in
theorem kL_does_15_3 : Cond.constant RL 87 (-2000000) ∈ wsL_does := by decide +kernel
set_option maxRecDepth 20000 in
theorem kL_does_15_4 : Cond.classLink RL 88 "java/lang/IllegalStateException" ∈ wsL_does := by decide +kernel
set_option maxRecDepth 20000 in
theorem kL_does_15_5 : Cond.constant RL 90 (-1000000) ∈ wsL_does := by decide +kernel
set_option maxHeartbeats 1500000 in
set_option maxRecDepth 100000 in
theorem c_L_does_15 (l : Launch) (hfl : l.stackTraces = false) (dC : Nat → ClassId) (dI : Nat → Nat → Nat) (cI cJ : ClassId) (mh ca ck cf cs ct sg la pl rw tw ga pa lg : Nat) (sz : Nat) (ni : Int32) (li : Int32) (mi : Int32) (mv : Int32) (nx : Int32) (al : Int32) (nc : Int32) (nl : Int32) (ki : Nat → Int32) (fi : Nat → Int32) (se : Nat → Int32) (th : Nat → Int32) (size : Int32) (on : Int32) (il : Int32) (ba : Int32) (p1 : Int32) (p2 : Int32) (p3 : Int32) (p4 : Int32) (hsz0 : 0 ≤ size.toInt) (hsz : size.toInt ≤ 12) : Met l yL_does wsL_does ({ frames := 8, cells := 1, slots := 6, locals := 125 }) (va_Pc [.ref mh, .int (15 : Int32), .int p1, .int p2, .int p3, .int p4] (zI (dC, dI) [(cI, .int), (cJ, .long)] [(mh, .inr (7, [.ref ca, .ref la, .ref sg, .ref pl, .ref rw, .ref tw, .ref ga, .ref pa, .int ni, .int li, .int mi, .int mv, .int nx, .int al, .int nc, .int nl])), (ca, .inr (0, [.ref ck, .ref cf, .ref cs, .ref ct, .int size])), (ck, .inl (cI, 12, .inl ki)), (cf, .inl (cI, 12, .inl fi)), (cs, .inl (cI, 12, .inl se)), (ct, .inl (cI, 12, .inl th)), (sg, .inr (5, [.ref lg, .int on, .int il, .int ba]))] sz)) (va_Qi (fun (r : Int32) (u : (Int32) × (Int32) × (Int32) × (Int32) × (Int32) × (Int32)) => r = rL_does_15 ni li mi mv nx al nc nl ki fi se th size on il ba p1 p2 p3 p4 ∧ u.1 = oL_does_15_ni ni li mi mv nx al nc nl ki fi se th size on il ba p1 p2 p3 p4 ∧ u.2.1 = oL_does_15_mi ni li mi mv nx al nc nl ki fi se th size on il ba p1 p2 p3 p4 ∧ u.2.2.1 = oL_does_15_mv ni li mi mv nx al nc nl ki fi se th size on il ba p1 p2 p3 p4 ∧ u.2.2.2.1 = oL_does_15_nx ni li mi mv nx al nc nl ki fi se th size on il ba p1 p2 p3 p4 ∧ u.2.2.2.2.1 = oL_does_15_nc ni li mi mv nx al nc nl ki fi se th size on il ba p1 p2 p3 p4 ∧ u.2.2.2.2.2 = oL_does_15_nl ni li mi mv nx al nc nl ki fi se th size on il ba p1 p2 p3 p4) (fun u => zO (dC, dI) [(cI, .int), (cJ, .long)] [(mh, .inr (7, [.ref ca, .ref la, .ref sg, .ref pl, .ref rw, .ref tw, .ref ga, .ref pa, .int u.1, .int li, .int u.2.1, .int u.2.2.1, .int u.2.2.2.1, .int al, .int u.2.2.2.2.1, .int u.2.2.2.2.2])), (ca, .inr (0, [.ref ck, .ref cf, .ref cs, .ref ct, .int size])), (ck, .inl (cI, 12, .inl ki)), (cf, .inl (cI, 12, .inl fi)), (cs, .inl (cI, 12, .inl se)), (ct, .inl (cI, 12, .inl th)), (sg, .inr (5, [.ref lg, .int on, .int il, .int ba]))] (va_A [(mh, .inr (7, [.ref ca, .ref la, .ref sg, .ref pl, .ref rw, .ref tw, .ref ga, .ref pa, .int ni, .int li, .int mi, .int mv, .int nx, .int al, .int nc, .int nl])), (ca, .inr (0, [.ref ck, .ref cf, .ref cs, .ref ct, .int size])), (ck, .inl (cI, 12, .inl ki)), (cf, .inl (cI, 12, .inl fi)), (cs, .inl (cI, 12, .inl se)), (ct, .inl (cI, 12, .inl th)), (sg, .inr (5, [.ref lg, .int on, .int il, .int ba]))] sz)) (va_A [(mh, .inr (7, [.ref ca, .ref la, .ref sg, .ref pl, .ref rw, .ref tw, .ref ga, .ref pa, .int ni, .int li, .int mi, .int mv, .int nx, .int al, .int nc, .int nl])), (ca, .inr (0, [.ref ck, .ref cf, .ref cs, .ref ct, .int size])), (ck, .inl (cI, 12, .inl ki)), (cf, .inl (cI, 12, .inl fi)), (cs, .inl (cI, 12, .inl se)), (ct, .inl (cI, 12, .inl th)), (sg, .inr (5, [.ref lg, .int on, .int il, .int ba]))] sz)) 1 6 (va_A [(mh, .inr (7, [.ref ca, .ref la, .ref sg, .ref pl, .ref rw, .ref tw, .ref ga, .ref pa, .int ni, .int li, .int mi, .int mv, .int nx, .int al, .int nc, .int nl])), (ca, .inr (0, [.ref ck, .ref cf, .ref cs, .ref ct, .int size])), (ck, .inl (cI, 12, .inl ki)), (cf, .inl (cI, 12, .inl fi)), (cs, .inl (cI, 12, .inl se)), (ct, .inl (cI, 12, .inl th)), (sg, .inr (5, [.ref lg, .int on, .int il, .int ba]))] sz) := by
  refine va_MetW (cc := cL_does) (maxL := 7) (ret := (some .int)) (by decide) rfl ?_
  intro p e s m args below meth c s₁ B hml hv
  obtain ⟨rfl, hsz, hP, hK, hD0, hG⟩ := hv
  have hx := B.exec
  have hb := B.bytes
  have hr := B.returns
  have hts := atoms_spec (ws := wsL_does) B.pre
  have hown : s.vm.findClass RL = some m.cls := findClass_of_methodNamed B.named
  have hlocks := B.notSynchronized
  have htab := vx_table (x := yL_does) (y := yL_does) B (hts _ List.mem_cons_self)
  subst hsz
  have hD := hD0.self (sz := s.heap.size)
  generalize hAe : va_A [(mh, .inr (7, [.ref ca, .ref la, .ref sg, .ref pl, .ref rw, .ref tw, .ref ga, .ref pa, .int ni, .int li, .int mi, .int mv, .int nx, .int al, .int nc, .int nl])), (ca, .inr (0, [.ref ck, .ref cf, .ref cs, .ref ct, .int size])), (ck, .inl (cI, 12, .inl ki)), (cf, .inl (cI, 12, .inl fi)), (cs, .inl (cI, 12, .inl se)), (ct, .inl (cI, 12, .inl th)), (sg, .inr (5, [.ref lg, .int on, .int il, .int ba]))] s.heap.size = A at hD hG ⊢
  have hA : ∀ q : Nat, s.heap.size ≤ q → A q := fun q h => by rw [← hAe]; exact Or.inr h
  have hS : va_S A s.heap s.heap [] := va_S.rf
  have hP : va_P (dC, dI) vwCl [(mh, .inr (7, [.ref ca, .ref la, .ref sg, .ref pl, .ref rw, .ref tw, .ref ga, .ref pa, .int ni, .int li, .int mi, .int mv, .int nx, .int al, .int nc, .int nl])), (ca, .inr (0, [.ref ck, .ref cf, .ref cs, .ref ct, .int size])), (ck, .inl (cI, 12, .inl ki)), (cf, .inl (cI, 12, .inl fi)), (cs, .inl (cI, 12, .inl se)), (ct, .inl (cI, 12, .inl th)), (sg, .inr (5, [.ref lg, .int on, .int il, .int ba]))] s.heap := hP
  have hl := lv_entry ([.ref mh, .int (15 : Int32), .int p1, .int p2, .int p3, .int p4]) (n := 7) (Nat.le_of_ble_eq_true rfl)
  rw [lg_entry_eq]
  generalize (lg_sl ([.ref mh, .int (15 : Int32), .int p1, .int p2, .int p3, .int p4]) ++ List.replicate (7 - (lg_sl ([.ref mh, .int (15 : Int32), .int p1, .int p2, .int p3, .int p4])).length) Slot.unset).toArray = ls at hl ⊢
  have hl : lv_has ls 7 [(0, .ref mh), (1, .int (15 : Int32)), (2, .int p1), (3, .int p2), (4, .int p3), (5, .int p4)] := hl
  refine lv_iload_n hx hb dL_does_0 rfl (lv_at hl 1 rfl) ?_
  refine lv_if_ne (tgt := 32) hx hb dL_does_1 (by decide) (fun c_1 => ?_) (fun c_1 => ?_)
  · refine lv_iload_n hx hb dL_does_32 rfl (lv_at hl 1 rfl) ?_
    refine lv_iconst (v := 1) hx hb dL_does_33 (by decide) ?_
    refine lv_icmp_ne (tgt := 46) hx hb dL_does_34 (by decide) (fun c_2 => ?_) (fun c_2 => ?_)
    · refine lv_iload_n hx hb dL_does_46 rfl (lv_at hl 1 rfl) ?_
      refine lv_iconst (v := 2) hx hb dL_does_47 (by decide) ?_
      refine lv_icmp_ne (tgt := 64) hx hb dL_does_48 (by decide) (fun c_3 => ?_) (fun c_3 => ?_)
      · refine lv_iload_n hx hb dL_does_64 rfl (lv_at hl 1 rfl) ?_
        refine lv_iconst (v := 3) hx hb dL_does_65 (by decide) ?_
        refine lv_icmp_ne (tgt := 76) hx hb dL_does_66 (by decide) (fun c_4 => ?_) (fun c_4 => ?_)
        · refine lv_iload_n hx hb dL_does_76 rfl (lv_at hl 1 rfl) ?_
          refine lv_iconst (v := 4) hx hb dL_does_77 (by decide) ?_
          refine lv_icmp_ne (tgt := 97) hx hb dL_does_78 (by decide) (fun c_5 => ?_) (fun c_5 => ?_)
          · refine lv_iload_n hx hb dL_does_97 rfl (lv_at hl 1 rfl) ?_
            refine lv_iconst (v := 5) hx hb dL_does_98 (by decide) ?_
            refine lv_icmp_ne (tgt := 118) hx hb dL_does_99 (by decide) (fun c_6 => ?_) (fun c_6 => ?_)
            · refine lv_iload_n hx hb dL_does_118 rfl (lv_at hl 1 rfl) ?_
              refine lv_bipush (v := 6) hx hb dL_does_119 (by decide) ?_
              refine lv_icmp_ne (tgt := 131) hx hb dL_does_121 (by decide) (fun c_7 => ?_) (fun c_7 => ?_)
              · refine lv_iload_n hx hb dL_does_131 rfl (lv_at hl 1 rfl) ?_
                refine lv_bipush (v := 7) hx hb dL_does_132 (by decide) ?_
                refine lv_icmp_ne (tgt := 148) hx hb dL_does_134 (by decide) (fun c_8 => ?_) (fun c_8 => ?_)
                · refine lv_iload_n hx hb dL_does_148 rfl (lv_at hl 1 rfl) ?_
                  refine lv_bipush (v := 8) hx hb dL_does_149 (by decide) ?_
                  refine lv_icmp_ne (tgt := 163) hx hb dL_does_151 (by decide) (fun c_9 => ?_) (fun c_9 => ?_)
                  · refine lv_iload_n hx hb dL_does_163 rfl (lv_at hl 1 rfl) ?_
                    refine lv_bipush (v := 9) hx hb dL_does_164 (by decide) ?_
                    refine lv_icmp_ne (tgt := 177) hx hb dL_does_166 (by decide) (fun c_10 => ?_) (fun c_10 => ?_)
                    · refine lv_iload_n hx hb dL_does_177 rfl (lv_at hl 1 rfl) ?_
                      refine lv_bipush (v := 10) hx hb dL_does_178 (by decide) ?_
                      refine lv_icmp_ne (tgt := 191) hx hb dL_does_180 (by decide) (fun c_11 => ?_) (fun c_11 => ?_)
                      · refine lv_iload_n hx hb dL_does_191 rfl (lv_at hl 1 rfl) ?_
                        refine lv_bipush (v := 11) hx hb dL_does_192 (by decide) ?_
                        refine lv_icmp_ne (tgt := 205) hx hb dL_does_194 (by decide) (fun c_12 => ?_) (fun c_12 => ?_)
                        · refine lv_iload_n hx hb dL_does_205 rfl (lv_at hl 1 rfl) ?_
                          refine lv_bipush (v := 12) hx hb dL_does_206 (by decide) ?_
                          refine lv_icmp_ne (tgt := 222) hx hb dL_does_208 (by decide) (fun c_13 => ?_) (fun c_13 => ?_)
                          · refine lv_iload_n hx hb dL_does_222 rfl (lv_at hl 1 rfl) ?_
                            refine lv_bipush (v := 13) hx hb dL_does_223 (by decide) ?_
                            refine lv_icmp_ne (tgt := 239) hx hb dL_does_225 (by decide) (fun c_14 => ?_) (fun c_14 => ?_)
                            · refine lv_iload_n hx hb dL_does_239 rfl (lv_at hl 1 rfl) ?_
                              refine lv_bipush (v := 14) hx hb dL_does_240 (by decide) ?_
                              refine lv_icmp_ne (tgt := 254) hx hb dL_does_242 (by decide) (fun c_15 => ?_) (fun c_15 => ?_)
                              · refine lv_iload_n hx hb dL_does_254 rfl (lv_at hl 1 rfl) ?_
                                refine lv_bipush (v := 15) hx hb dL_does_255 (by decide) ?_
                                refine lv_icmp_ne (tgt := 269) hx hb dL_does_257 (by decide) (fun c_16 => ?_) (fun c_16 => ?_)
                                · exact absurd (show (15 : Int32) = (15 : Int32) from by decide) c_16
                                · refine lv_aload_n hx hb dL_does_260 rfl (lv_at hl 0 rfl) ?_
                                  refine lv_iload_n hx hb dL_does_261 rfl (lv_at hl 2 rfl) ?_
                                  refine lv_iload_n hx hb dL_does_262 rfl (lv_at hl 3 rfl) ?_
                                  refine zxI (wr := []) (px := fun k9 => (xX7_greet ni li mi mv nx al nc nl ki fi se th size on il ba p1 p2) = k9 ∧ k9 ≠ 0) (P0 := (xX7_greet ni li mi mv nx al nc nl ki fi se th size on il ba p1 p2) = 0) (r0 := (rX7_greet ni li mi mv nx al nc nl ki fi se th size on il ba p1 p2)) (u0 := ((oX7_greet_ni ni li mi mv nx al nc nl ki fi se th size on il ba p1 p2), (oX7_greet_mi ni li mi mv nx al nc nl ki fi se th size on il ba p1 p2), (oX7_greet_mv ni li mi mv nx al nc nl ki fi se th size on il ba p1 p2), (oX7_greet_nx ni li mi mv nx al nc nl ki fi se th size on il ba p1 p2), (oX7_greet_nc ni li mi mv nx al nc nl ki fi se th size on il ba p1 p2), (oX7_greet_nl ni li mi mv nx al nc nl ki fi se th size on il ba p1 p2))) (vx_runV (As := [.int p1, .int p2]) (rest := []) ⟨hx, hb, hml, hown, hts⟩ (c_X7_greet l hfl dC dI cI cJ mh ca ck cf cs ct sg la pl rw tw ga pa lg s.heap.size ni li mi mv nx al nc nl ki fi se th size on il ba p1 p2 (by assumption) (by assumption)) (cwV 2 hts gL_does_X7_greet rfl rfl rfl (by decide +kernel) ⟨Nat.le_of_ble_eq_true rfl, Nat.le_of_ble_eq_true rfl⟩) (zpV hK hP hD hS hA hG [0, 1, 2, 3, 4, 5, 6] (by decide) rfl 7 0 rfl rfl) rfl rfl hl.1 rfl (lv_room (Nat.le_of_ble_eq_true rfl)) dL_does_263 ⟨Nat.le_of_ble_eq_true rfl, Nat.le_of_ble_eq_true rfl⟩) (fun r u h => ⟨h.1, h.2.1, zT6 h.2.2.1 h.2.2.2.1 h.2.2.2.2.1 h.2.2.2.2.2.1 h.2.2.2.2.2.2.1 h.2.2.2.2.2.2.2⟩) hP hD hS hA [0, 1, 2, 3, 4, 5, 6] [] rfl rfl (by decide) (by decide) (fun k9 ce q9 H locs hw_17 hP hS hce hcv hcl => ?_) (fun H locs c_18 hP hD hS => ?_)
                                  · have hk9 : k9 = 1 ∨ k9 = 2 ∨ k9 = 3 := by have h := bxX7_greet ni li mi mv nx al nc nl ki fi se th size on il ba p1 p2; omega
                                    rcases hk9 with rfl | rfl | rfl
                                    · have c_18 : ¬ (xX7_greet ni li mi mv nx al nc nl ki fi se th size on il ba p1 p2) = 0 := by rw [hw_17.1]; decide
                                      have c_19 : (xX7_greet ni li mi mv nx al nc nl ki fi se th size on il ba p1 p2) = 1 := hw_17.1
                                      refine vx_catch (name := zXn 1) hown [] ⟨0, 326, 327, 82⟩ [⟨0, 326, 332, 85⟩, ⟨0, 326, 337, 88⟩] htab (fun z hz => by cases hz) (by decide) (by decide) (hts _ kL_does_15_0) (va_Nw.use rfl (hG.1.2.2.2.1 1)) hce hcv hcl ?_
                                      refine lv_astore (lv' := [(6, .ref q9), (0, .ref mh), (1, .int (15 : Int32)), (2, .int p1), (3, .int p2), (4, .int p3), (5, .int p4)]) hx hb dL_does_327 hl (by decide) rfl (fun ls hl => ?_)
                                      refine lv_ldc (v := -3000000) hx hb hown (hts _ kL_does_15_1) dL_does_329 ?_
                                      refine W.widen (k := 1) (n := 6) (by decide) (by decide) ?_
                                      exact W.iret (v := (-3000000 : Int32)) hx hb hr (fun t ht hW => ⟨⟨(-3000000 : Int32), (ni, mi, mv, nx, nc, nl), rfl, ⟨(by unfold rL_does_15; rw [if_neg c_18, if_pos c_19]), (by unfold oL_does_15_ni; rw [if_neg c_18]), (by unfold oL_does_15_mi; rw [if_neg c_18]), (by unfold oL_does_15_mv; rw [if_neg c_18]), (by unfold oL_does_15_nx; rw [if_neg c_18]), (by unfold oL_does_15_nc; rw [if_neg c_18]), (by unfold oL_does_15_nl; rw [if_neg c_18])⟩, (by rw [ht]; exact hP.sub [0, 1, 2, 3, 4, 5, 6] rfl), va_K.moved hW.alike hK, hD.sub [0, 1, 2, 3, 4, 5, 6] (by decide) rfl⟩, hS.F ht⟩) hS.2.2 dL_does_331
                                    · have c_18 : ¬ (xX7_greet ni li mi mv nx al nc nl ki fi se th size on il ba p1 p2) = 0 := by rw [hw_17.1]; decide
                                      have c_21 : ¬ (xX7_greet ni li mi mv nx al nc nl ki fi se th size on il ba p1 p2) = 1 := by rw [hw_17.1]; decide
                                      have c_20 : (xX7_greet ni li mi mv nx al nc nl ki fi se th size on il ba p1 p2) = 2 := hw_17.1
                                      refine vx_catch (name := zXn 2) hown [⟨0, 326, 327, 82⟩] ⟨0, 326, 332, 85⟩ [⟨0, 326, 337, 88⟩] htab (fun z hz => by rcases (List.mem_cons.mp hz) with rfl | hz; exact Or.inr ⟨by decide, _, (hts _ kL_does_15_0), hG.1.2.2.1 _ (List.mem_of_getElem? (i := 0) rfl)⟩; cases hz) (by decide) (by decide) (hts _ kL_does_15_2) (va_Nw.use rfl (hG.1.2.2.2.1 2)) hce hcv hcl ?_
                                      refine lv_astore (lv' := [(6, .ref q9), (0, .ref mh), (1, .int (15 : Int32)), (2, .int p1), (3, .int p2), (4, .int p3), (5, .int p4)]) hx hb dL_does_332 hl (by decide) rfl (fun ls hl => ?_)
                                      refine lv_ldc (v := -2000000) hx hb hown (hts _ kL_does_15_3) dL_does_334 ?_
                                      refine W.widen (k := 1) (n := 6) (by decide) (by decide) ?_
                                      exact W.iret (v := (-2000000 : Int32)) hx hb hr (fun t ht hW => ⟨⟨(-2000000 : Int32), (ni, mi, mv, nx, nc, nl), rfl, ⟨(by unfold rL_does_15; rw [if_neg c_18, if_neg c_21, if_pos c_20]), (by unfold oL_does_15_ni; rw [if_neg c_18]), (by unfold oL_does_15_mi; rw [if_neg c_18]), (by unfold oL_does_15_mv; rw [if_neg c_18]), (by unfold oL_does_15_nx; rw [if_neg c_18]), (by unfold oL_does_15_nc; rw [if_neg c_18]), (by unfold oL_does_15_nl; rw [if_neg c_18])⟩, (by rw [ht]; exact hP.sub [0, 1, 2, 3, 4, 5, 6] rfl), va_K.moved hW.alike hK, hD.sub [0, 1, 2, 3, 4, 5, 6] (by decide) rfl⟩, hS.F ht⟩) hS.2.2 dL_does_336
                                    · have c_18 : ¬ (xX7_greet ni li mi mv nx al nc nl ki fi se th size on il ba p1 p2) = 0 := by rw [hw_17.1]; decide
                                      have c_23 : ¬ (xX7_greet ni li mi mv nx al nc nl ki fi se th size on il ba p1 p2) = 1 := by rw [hw_17.1]; decide
                                      have c_24 : ¬ (xX7_greet ni li mi mv nx al nc nl ki fi se th size on il ba p1 p2) = 2 := by rw [hw_17.1]; decide
                                      have c_22 : (xX7_greet ni li mi mv nx al nc nl ki fi se th size on il ba p1 p2) = 3 := hw_17.1
                                      refine vx_catch (name := zXn 3) hown [⟨0, 326, 327, 82⟩, ⟨0, 326, 332, 85⟩] ⟨0, 326, 337, 88⟩ [] htab (fun z hz => by rcases (List.mem_cons.mp hz) with rfl | hz; exact Or.inr ⟨by decide, _, (hts _ kL_does_15_0), hG.1.2.2.1 _ (List.mem_of_getElem? (i := 1) rfl)⟩; rcases (List.mem_cons.mp hz) with rfl | hz; exact Or.inr ⟨by decide, _, (hts _ kL_does_15_2), hG.1.2.2.1 _ (List.mem_of_getElem? (i := 2) rfl)⟩; cases hz) (by decide) (by decide) (hts _ kL_does_15_4) (va_Nw.use rfl (hG.1.2.2.2.1 3)) hce hcv hcl ?_
                                      refine lv_astore (lv' := [(6, .ref q9), (0, .ref mh), (1, .int (15 : Int32)), (2, .int p1), (3, .int p2), (4, .int p3), (5, .int p4)]) hx hb dL_does_337 hl (by decide) rfl (fun ls hl => ?_)
                                      refine lv_ldc (v := -1000000) hx hb hown (hts _ kL_does_15_5) dL_does_339 ?_
                                      refine W.widen (k := 1) (n := 6) (by decide) (by decide) ?_
                                      exact W.iret (v := (-1000000 : Int32)) hx hb hr (fun t ht hW => ⟨⟨(-1000000 : Int32), (ni, mi, mv, nx, nc, nl), rfl, ⟨(by unfold rL_does_15; rw [if_neg c_18, if_neg c_23, if_neg c_24]), (by unfold oL_does_15_ni; rw [if_neg c_18]), (by unfold oL_does_15_mi; rw [if_neg c_18]), (by unfold oL_does_15_mv; rw [if_neg c_18]), (by unfold oL_does_15_nx; rw [if_neg c_18]), (by unfold oL_does_15_nc; rw [if_neg c_18]), (by unfold oL_does_15_nl; rw [if_neg c_18])⟩, (by rw [ht]; exact hP.sub [0, 1, 2, 3, 4, 5, 6] rfl), va_K.moved hW.alike hK, hD.sub [0, 1, 2, 3, 4, 5, 6] (by decide) rfl⟩, hS.F ht⟩) hS.2.2 dL_does_341
                                  · try dsimp only [List.cons_append, List.nil_append] at hP hD
                                    have hP : va_P (dC, dI) vwCl [(mh, .inr (7, [.ref ca, .ref la, .ref sg, .ref pl, .ref rw, .ref tw, .ref ga, .ref pa, .int (oX7_greet_ni ni li mi mv nx al nc nl ki fi se th size on il ba p1 p2), .int li, .int (oX7_greet_mi ni li mi mv nx al nc nl ki fi se th size on il ba p1 p2), .int (oX7_greet_mv ni li mi mv nx al nc nl ki fi se th size on il ba p1 p2), .int (oX7_greet_nx ni li mi mv nx al nc nl ki fi se th size on il ba p1 p2), .int al, .int (oX7_greet_nc ni li mi mv nx al nc nl ki fi se th size on il ba p1 p2), .int (oX7_greet_nl ni li mi mv nx al nc nl ki fi se th size on il ba p1 p2)])), (ca, .inr (0, [.ref ck, .ref cf, .ref cs, .ref ct, .int size])), (ck, .inl (cI, 12, .inl ki)), (cf, .inl (cI, 12, .inl fi)), (cs, .inl (cI, 12, .inl se)), (ct, .inl (cI, 12, .inl th)), (sg, .inr (5, [.ref lg, .int on, .int il, .int ba]))] H := hP
                                    have hD : va_D A [(mh, .inr (7, [.ref ca, .ref la, .ref sg, .ref pl, .ref rw, .ref tw, .ref ga, .ref pa, .int (oX7_greet_ni ni li mi mv nx al nc nl ki fi se th size on il ba p1 p2), .int li, .int (oX7_greet_mi ni li mi mv nx al nc nl ki fi se th size on il ba p1 p2), .int (oX7_greet_mv ni li mi mv nx al nc nl ki fi se th size on il ba p1 p2), .int (oX7_greet_nx ni li mi mv nx al nc nl ki fi se th size on il ba p1 p2), .int al, .int (oX7_greet_nc ni li mi mv nx al nc nl ki fi se th size on il ba p1 p2), .int (oX7_greet_nl ni li mi mv nx al nc nl ki fi se th size on il ba p1 p2)])), (ca, .inr (0, [.ref ck, .ref cf, .ref cs, .ref ct, .int size])), (ck, .inl (cI, 12, .inl ki)), (cf, .inl (cI, 12, .inl fi)), (cs, .inl (cI, 12, .inl se)), (ct, .inl (cI, 12, .inl th)), (sg, .inr (5, [.ref lg, .int on, .int il, .int ba]))] := hD
                                    refine lv_goto (tgt := 326) hx hb dL_does_266 (by decide) ?_
                                    refine W.widen (k := 1) (n := 6) (by decide) (by decide) ?_
                                    exact W.iret (v := (rX7_greet ni li mi mv nx al nc nl ki fi se th size on il ba p1 p2)) hx hb hr (fun t ht hW => ⟨⟨(rX7_greet ni li mi mv nx al nc nl ki fi se th size on il ba p1 p2), ((oX7_greet_ni ni li mi mv nx al nc nl ki fi se th size on il ba p1 p2), (oX7_greet_mi ni li mi mv nx al nc nl ki fi se th size on il ba p1 p2), (oX7_greet_mv ni li mi mv nx al nc nl ki fi se th size on il ba p1 p2), (oX7_greet_nx ni li mi mv nx al nc nl ki fi se th size on il ba p1 p2), (oX7_greet_nc ni li mi mv nx al nc nl ki fi se th size on il ba p1 p2), (oX7_greet_nl ni li mi mv nx al nc nl ki fi se th size on il ba p1 p2)), rfl, ⟨(by unfold rL_does_15; rw [if_pos c_18]), (by unfold oL_does_15_ni; rw [if_pos c_18]), (by unfold oL_does_15_mi; rw [if_pos c_18]), (by unfold oL_does_15_mv; rw [if_pos c_18]), (by unfold oL_does_15_nx; rw [if_pos c_18]), (by unfold oL_does_15_nc; rw [if_pos c_18]), (by unfold oL_does_15_nl; rw [if_pos c_18])⟩, (by rw [ht]; exact hP.sub [0, 1, 2, 3, 4, 5, 6] rfl), va_K.moved hW.alike hK, hD.sub [0, 1, 2, 3, 4, 5, 6] (by decide) rfl⟩, hS.F ht⟩) hS.2.2 dL_does_326
                              · exact absurd c_15 (by decide)
                            · exact absurd c_14 (by decide)
                          · exact absurd c_13 (by decide)
                        · exact absurd c_12 (by decide)
                      · exact absurd c_11 (by decide)
                    · exact absurd c_10 (by decide)
                  · exact absurd c_9 (by decide)
                · exact absurd c_8 (by decide)
              · exact absurd c_7 (by decide)
            · exact absurd c_6 (by decide)
          · exact absurd c_5 (by decide)
        · exact absurd c_4 (by decide)
      · exact absurd c_3 (by decide)
    · exact absurd c_2 (by decide)
  · exact absurd c_1 (by decide)

/-! L_does -/
def rL_does_16 (ni : Int32) (li : Int32) (mi : Int32) (mv : Int32) (nx : Int32) (al : Int32) (nc : Int32) (nl : Int32) (le : Nat → Int32) (wi : Nat → Int32) (pr : Nat → Int32) (tp : Nat → Int32) (gs : Int32) (on : Int32) (il : Int32) (ba : Int32) (kn : Nat → Int32) (ho : Nat → Int32) (p1 : Int32) (p2 : Int32) (p3 : Int32) (p4 : Int32) : Int32 := (if (xX7_play ni li mi mv nx al nc nl le wi pr tp gs on il ba kn ho p1 p2) = 0 then (rX7_play ni li mi mv nx al nc nl le wi pr tp gs on il ba kn ho p1 p2) else (if (xX7_play ni li mi mv nx al nc nl le wi pr tp gs on il ba kn ho p1 p2) = 1 then (-3000000 : Int32) else (-1000000 : Int32)))
def oL_does_16_tp (ni : Int32) (li : Int32) (mi : Int32) (mv : Int32) (nx : Int32) (al : Int32) (nc : Int32) (nl : Int32) (le : Nat → Int32) (wi : Nat → Int32) (pr : Nat → Int32) (tp : Nat → Int32) (gs : Int32) (on : Int32) (il : Int32) (ba : Int32) (kn : Nat → Int32) (ho : Nat → Int32) (p1 : Int32) (p2 : Int32) (p3 : Int32) (p4 : Int32) : Nat → Int32 := (if (xX7_play ni li mi mv nx al nc nl le wi pr tp gs on il ba kn ho p1 p2) = 0 then (oX7_play_tp ni li mi mv nx al nc nl le wi pr tp gs on il ba kn ho p1 p2) else tp)
def oL_does_16_al (ni : Int32) (li : Int32) (mi : Int32) (mv : Int32) (nx : Int32) (al : Int32) (nc : Int32) (nl : Int32) (le : Nat → Int32) (wi : Nat → Int32) (pr : Nat → Int32) (tp : Nat → Int32) (gs : Int32) (on : Int32) (il : Int32) (ba : Int32) (kn : Nat → Int32) (ho : Nat → Int32) (p1 : Int32) (p2 : Int32) (p3 : Int32) (p4 : Int32) : Int32 := (if (xX7_play ni li mi mv nx al nc nl le wi pr tp gs on il ba kn ho p1 p2) = 0 then (oX7_play_al ni li mi mv nx al nc nl le wi pr tp gs on il ba kn ho p1 p2) else al)
def oL_does_16_ni (ni : Int32) (li : Int32) (mi : Int32) (mv : Int32) (nx : Int32) (al : Int32) (nc : Int32) (nl : Int32) (le : Nat → Int32) (wi : Nat → Int32) (pr : Nat → Int32) (tp : Nat → Int32) (gs : Int32) (on : Int32) (il : Int32) (ba : Int32) (kn : Nat → Int32) (ho : Nat → Int32) (p1 : Int32) (p2 : Int32) (p3 : Int32) (p4 : Int32) : Int32 := (if (xX7_play ni li mi mv nx al nc nl le wi pr tp gs on il ba kn ho p1 p2) = 0 then (oX7_play_ni ni li mi mv nx al nc nl le wi pr tp gs on il ba kn ho p1 p2) else ni)
def oL_does_16_mi (ni : Int32) (li : Int32) (mi : Int32) (mv : Int32) (nx : Int32) (al : Int32) (nc : Int32) (nl : Int32) (le : Nat → Int32) (wi : Nat → Int32) (pr : Nat → Int32) (tp : Nat → Int32) (gs : Int32) (on : Int32) (il : Int32) (ba : Int32) (kn : Nat → Int32) (ho : Nat → Int32) (p1 : Int32) (p2 : Int32) (p3 : Int32) (p4 : Int32) : Int32 := (if (xX7_play ni li mi mv nx al nc nl le wi pr tp gs on il ba kn ho p1 p2) = 0 then (oX7_play_mi ni li mi mv nx al nc nl le wi pr tp gs on il ba kn ho p1 p2) else mi)
def oL_does_16_nl (ni : Int32) (li : Int32) (mi : Int32) (mv : Int32) (nx : Int32) (al : Int32) (nc : Int32) (nl : Int32) (le : Nat → Int32) (wi : Nat → Int32) (pr : Nat → Int32) (tp : Nat → Int32) (gs : Int32) (on : Int32) (il : Int32) (ba : Int32) (kn : Nat → Int32) (ho : Nat → Int32) (p1 : Int32) (p2 : Int32) (p3 : Int32) (p4 : Int32) : Int32 := (if (xX7_play ni li mi mv nx al nc nl le wi pr tp gs on il ba kn ho p1 p2) = 0 then (oX7_play_nl ni li mi mv nx al nc nl le wi pr tp gs on il ba kn ho p1 p2) else nl)
set_option maxRecDepth 20000 in
theorem kL_does_16_0 : Cond.classLink RL 82 "java/lang/IndexOutOfBoundsException" ∈ wsL_does := by decide +kernel
set_option maxRecDepth 20000 in
theorem kL_does_16_1 : Cond.constant RL 84 (-3000000) ∈ wsL_does := by decide +kernel
set_option maxRecDepth 20000 in
theorem kL_does_16_2 : Cond.classLink RL 85 "java/lang/IllegalArgumentException" ∈ wsL_does := by decide +kernel
set_option maxRecDepth 20000 in
theorem kL_does_16_3 : Cond.classLink RL 88 "java/lang/IllegalStateException" ∈ wsL_does := by decide +kernel
set_option maxRecDepth 20000 in
theorem kL_does_16_4 : Cond.constant RL 90 (-1000000) ∈ wsL_does := by decide +kernel
set_option maxHeartbeats 1480000 in
set_option maxRecDepth 100000 in
theorem c_L_does_16 (l : Launch) (hfl : l.stackTraces = false) (dC : Nat → ClassId) (dI : Nat → Nat → Nat) (cI cJ : ClassId) (mh ga gl gw gp gt sg lg kg hg ca la pl rw tw pa : Nat) (sz : Nat) (ni : Int32) (li : Int32) (mi : Int32) (mv : Int32) (nx : Int32) (al : Int32) (nc : Int32) (nl : Int32) (le : Nat → Int32) (wi : Nat → Int32) (pr : Nat → Int32) (tp : Nat → Int32) (gs : Int32) (on : Int32) (il : Int32) (ba : Int32) (kn : Nat → Int32) (ho : Nat → Int32) (p1 : Int32) (p2 : Int32) (p3 : Int32) (p4 : Int32) (hgs0 : 0 ≤ gs.toInt) (hgs : gs.toInt ≤ 6) (hPR : ∀ j : Nat, j < 6 → pr j = -1 ∨ vp_in (pr j) 4) : Met l yL_does wsL_does ({ frames := 8, cells := 1, slots := 6, locals := 127 }) (va_Pc [.ref mh, .int (16 : Int32), .int p1, .int p2, .int p3, .int p4] (zI (dC, dI) [(cI, .int), (cJ, .long)] [(mh, .inr (7, [.ref ca, .ref la, .ref sg, .ref pl, .ref rw, .ref tw, .ref ga, .ref pa, .int ni, .int li, .int mi, .int mv, .int nx, .int al, .int nc, .int nl])), (ga, .inr (1, [.ref gl, .ref gw, .ref gp, .ref gt, .int gs])), (gl, .inl (cI, 6, .inl le)), (gw, .inl (cI, 6, .inl wi)), (gp, .inl (cI, 6, .inl pr)), (gt, .inl (cI, 6, .inl tp)), (sg, .inr (5, [.ref lg, .int on, .int il, .int ba])), (lg, .inr (2, [.ref kg, .ref hg])), (kg, .inl (cI, 4, .inl kn)), (hg, .inl (cI, 4, .inl ho))] sz)) (va_Qi (fun (r : Int32) (u : (Nat → Int32) × (Int32) × (Int32) × (Int32) × (Int32)) => r = rL_does_16 ni li mi mv nx al nc nl le wi pr tp gs on il ba kn ho p1 p2 p3 p4 ∧ u.1 = oL_does_16_tp ni li mi mv nx al nc nl le wi pr tp gs on il ba kn ho p1 p2 p3 p4 ∧ u.2.1 = oL_does_16_al ni li mi mv nx al nc nl le wi pr tp gs on il ba kn ho p1 p2 p3 p4 ∧ u.2.2.1 = oL_does_16_ni ni li mi mv nx al nc nl le wi pr tp gs on il ba kn ho p1 p2 p3 p4 ∧ u.2.2.2.1 = oL_does_16_mi ni li mi mv nx al nc nl le wi pr tp gs on il ba kn ho p1 p2 p3 p4 ∧ u.2.2.2.2 = oL_does_16_nl ni li mi mv nx al nc nl le wi pr tp gs on il ba kn ho p1 p2 p3 p4) (fun u => zO (dC, dI) [(cI, .int), (cJ, .long)] [(mh, .inr (7, [.ref ca, .ref la, .ref sg, .ref pl, .ref rw, .ref tw, .ref ga, .ref pa, .int u.2.2.1, .int li, .int u.2.2.2.1, .int mv, .int nx, .int u.2.1, .int nc, .int u.2.2.2.2])), (ga, .inr (1, [.ref gl, .ref gw, .ref gp, .ref gt, .int gs])), (gl, .inl (cI, 6, .inl le)), (gw, .inl (cI, 6, .inl wi)), (gp, .inl (cI, 6, .inl pr)), (gt, .inl (cI, 6, .inl u.1)), (sg, .inr (5, [.ref lg, .int on, .int il, .int ba])), (lg, .inr (2, [.ref kg, .ref hg])), (kg, .inl (cI, 4, .inl kn)), (hg, .inl (cI, 4, .inl ho))] (va_A [(mh, .inr (7, [.ref ca, .ref la, .ref sg, .ref pl, .ref rw, .ref tw, .ref ga, .ref pa, .int ni, .int li, .int mi, .int mv, .int nx, .int al, .int nc, .int nl])), (ga, .inr (1, [.ref gl, .ref gw, .ref gp, .ref gt, .int gs])), (gl, .inl (cI, 6, .inl le)), (gw, .inl (cI, 6, .inl wi)), (gp, .inl (cI, 6, .inl pr)), (gt, .inl (cI, 6, .inl tp)), (sg, .inr (5, [.ref lg, .int on, .int il, .int ba])), (lg, .inr (2, [.ref kg, .ref hg])), (kg, .inl (cI, 4, .inl kn)), (hg, .inl (cI, 4, .inl ho))] sz)) (va_A [(mh, .inr (7, [.ref ca, .ref la, .ref sg, .ref pl, .ref rw, .ref tw, .ref ga, .ref pa, .int ni, .int li, .int mi, .int mv, .int nx, .int al, .int nc, .int nl])), (ga, .inr (1, [.ref gl, .ref gw, .ref gp, .ref gt, .int gs])), (gl, .inl (cI, 6, .inl le)), (gw, .inl (cI, 6, .inl wi)), (gp, .inl (cI, 6, .inl pr)), (gt, .inl (cI, 6, .inl tp)), (sg, .inr (5, [.ref lg, .int on, .int il, .int ba])), (lg, .inr (2, [.ref kg, .ref hg])), (kg, .inl (cI, 4, .inl kn)), (hg, .inl (cI, 4, .inl ho))] sz)) 1 6 (va_A [(mh, .inr (7, [.ref ca, .ref la, .ref sg, .ref pl, .ref rw, .ref tw, .ref ga, .ref pa, .int ni, .int li, .int mi, .int mv, .int nx, .int al, .int nc, .int nl])), (ga, .inr (1, [.ref gl, .ref gw, .ref gp, .ref gt, .int gs])), (gl, .inl (cI, 6, .inl le)), (gw, .inl (cI, 6, .inl wi)), (gp, .inl (cI, 6, .inl pr)), (gt, .inl (cI, 6, .inl tp)), (sg, .inr (5, [.ref lg, .int on, .int il, .int ba])), (lg, .inr (2, [.ref kg, .ref hg])), (kg, .inl (cI, 4, .inl kn)), (hg, .inl (cI, 4, .inl ho))] sz) := by
  refine va_MetW (cc := cL_does) (maxL := 7) (ret := (some .int)) (by decide) rfl ?_
  intro p e s m args below meth c s₁ B hml hv
  obtain ⟨rfl, hsz, hP, hK, hD0, hG⟩ := hv
  have hx := B.exec
  have hb := B.bytes
  have hr := B.returns
  have hts := atoms_spec (ws := wsL_does) B.pre
  have hown : s.vm.findClass RL = some m.cls := findClass_of_methodNamed B.named
  have hlocks := B.notSynchronized
  have htab := vx_table (x := yL_does) (y := yL_does) B (hts _ List.mem_cons_self)
  subst hsz
  have hD := hD0.self (sz := s.heap.size)
  generalize hAe : va_A [(mh, .inr (7, [.ref ca, .ref la, .ref sg, .ref pl, .ref rw, .ref tw, .ref ga, .ref pa, .int ni, .int li, .int mi, .int mv, .int nx, .int al, .int nc, .int nl])), (ga, .inr (1, [.ref gl, .ref gw, .ref gp, .ref gt, .int gs])), (gl, .inl (cI, 6, .inl le)), (gw, .inl (cI, 6, .inl wi)), (gp, .inl (cI, 6, .inl pr)), (gt, .inl (cI, 6, .inl tp)), (sg, .inr (5, [.ref lg, .int on, .int il, .int ba])), (lg, .inr (2, [.ref kg, .ref hg])), (kg, .inl (cI, 4, .inl kn)), (hg, .inl (cI, 4, .inl ho))] s.heap.size = A at hD hG ⊢
  have hA : ∀ q : Nat, s.heap.size ≤ q → A q := fun q h => by rw [← hAe]; exact Or.inr h
  have hS : va_S A s.heap s.heap [] := va_S.rf
  have hP : va_P (dC, dI) vwCl [(mh, .inr (7, [.ref ca, .ref la, .ref sg, .ref pl, .ref rw, .ref tw, .ref ga, .ref pa, .int ni, .int li, .int mi, .int mv, .int nx, .int al, .int nc, .int nl])), (ga, .inr (1, [.ref gl, .ref gw, .ref gp, .ref gt, .int gs])), (gl, .inl (cI, 6, .inl le)), (gw, .inl (cI, 6, .inl wi)), (gp, .inl (cI, 6, .inl pr)), (gt, .inl (cI, 6, .inl tp)), (sg, .inr (5, [.ref lg, .int on, .int il, .int ba])), (lg, .inr (2, [.ref kg, .ref hg])), (kg, .inl (cI, 4, .inl kn)), (hg, .inl (cI, 4, .inl ho))] s.heap := hP
  have hl := lv_entry ([.ref mh, .int (16 : Int32), .int p1, .int p2, .int p3, .int p4]) (n := 7) (Nat.le_of_ble_eq_true rfl)
  rw [lg_entry_eq]
  generalize (lg_sl ([.ref mh, .int (16 : Int32), .int p1, .int p2, .int p3, .int p4]) ++ List.replicate (7 - (lg_sl ([.ref mh, .int (16 : Int32), .int p1, .int p2, .int p3, .int p4])).length) Slot.unset).toArray = ls at hl ⊢
  have hl : lv_has ls 7 [(0, .ref mh), (1, .int (16 : Int32)), (2, .int p1), (3, .int p2), (4, .int p3), (5, .int p4)] := hl
  refine lv_iload_n hx hb dL_does_0 rfl (lv_at hl 1 rfl) ?_
  refine lv_if_ne (tgt := 32) hx hb dL_does_1 (by decide) (fun c_1 => ?_) (fun c_1 => ?_)
  · refine lv_iload_n hx hb dL_does_32 rfl (lv_at hl 1 rfl) ?_
    refine lv_iconst (v := 1) hx hb dL_does_33 (by decide) ?_
    refine lv_icmp_ne (tgt := 46) hx hb dL_does_34 (by decide) (fun c_2 => ?_) (fun c_2 => ?_)
    · refine lv_iload_n hx hb dL_does_46 rfl (lv_at hl 1 rfl) ?_
      refine lv_iconst (v := 2) hx hb dL_does_47 (by decide) ?_
      refine lv_icmp_ne (tgt := 64) hx hb dL_does_48 (by decide) (fun c_3 => ?_) (fun c_3 => ?_)
      · refine lv_iload_n hx hb dL_does_64 rfl (lv_at hl 1 rfl) ?_
        refine lv_iconst (v := 3) hx hb dL_does_65 (by decide) ?_
        refine lv_icmp_ne (tgt := 76) hx hb dL_does_66 (by decide) (fun c_4 => ?_) (fun c_4 => ?_)
        · refine lv_iload_n hx hb dL_does_76 rfl (lv_at hl 1 rfl) ?_
          refine lv_iconst (v := 4) hx hb dL_does_77 (by decide) ?_
          refine lv_icmp_ne (tgt := 97) hx hb dL_does_78 (by decide) (fun c_5 => ?_) (fun c_5 => ?_)
          · refine lv_iload_n hx hb dL_does_97 rfl (lv_at hl 1 rfl) ?_
            refine lv_iconst (v := 5) hx hb dL_does_98 (by decide) ?_
            refine lv_icmp_ne (tgt := 118) hx hb dL_does_99 (by decide) (fun c_6 => ?_) (fun c_6 => ?_)
            · refine lv_iload_n hx hb dL_does_118 rfl (lv_at hl 1 rfl) ?_
              refine lv_bipush (v := 6) hx hb dL_does_119 (by decide) ?_
              refine lv_icmp_ne (tgt := 131) hx hb dL_does_121 (by decide) (fun c_7 => ?_) (fun c_7 => ?_)
              · refine lv_iload_n hx hb dL_does_131 rfl (lv_at hl 1 rfl) ?_
                refine lv_bipush (v := 7) hx hb dL_does_132 (by decide) ?_
                refine lv_icmp_ne (tgt := 148) hx hb dL_does_134 (by decide) (fun c_8 => ?_) (fun c_8 => ?_)
                · refine lv_iload_n hx hb dL_does_148 rfl (lv_at hl 1 rfl) ?_
                  refine lv_bipush (v := 8) hx hb dL_does_149 (by decide) ?_
                  refine lv_icmp_ne (tgt := 163) hx hb dL_does_151 (by decide) (fun c_9 => ?_) (fun c_9 => ?_)
                  · refine lv_iload_n hx hb dL_does_163 rfl (lv_at hl 1 rfl) ?_
                    refine lv_bipush (v := 9) hx hb dL_does_164 (by decide) ?_
                    refine lv_icmp_ne (tgt := 177) hx hb dL_does_166 (by decide) (fun c_10 => ?_) (fun c_10 => ?_)
                    · refine lv_iload_n hx hb dL_does_177 rfl (lv_at hl 1 rfl) ?_
                      refine lv_bipush (v := 10) hx hb dL_does_178 (by decide) ?_
                      refine lv_icmp_ne (tgt := 191) hx hb dL_does_180 (by decide) (fun c_11 => ?_) (fun c_11 => ?_)
                      · refine lv_iload_n hx hb dL_does_191 rfl (lv_at hl 1 rfl) ?_
                        refine lv_bipush (v := 11) hx hb dL_does_192 (by decide) ?_
                        refine lv_icmp_ne (tgt := 205) hx hb dL_does_194 (by decide) (fun c_12 => ?_) (fun c_12 => ?_)
                        · refine lv_iload_n hx hb dL_does_205 rfl (lv_at hl 1 rfl) ?_
                          refine lv_bipush (v := 12) hx hb dL_does_206 (by decide) ?_
                          refine lv_icmp_ne (tgt := 222) hx hb dL_does_208 (by decide) (fun c_13 => ?_) (fun c_13 => ?_)
                          · refine lv_iload_n hx hb dL_does_222 rfl (lv_at hl 1 rfl) ?_
                            refine lv_bipush (v := 13) hx hb dL_does_223 (by decide) ?_
                            refine lv_icmp_ne (tgt := 239) hx hb dL_does_225 (by decide) (fun c_14 => ?_) (fun c_14 => ?_)
                            · refine lv_iload_n hx hb dL_does_239 rfl (lv_at hl 1 rfl) ?_
                              refine lv_bipush (v := 14) hx hb dL_does_240 (by decide) ?_
                              refine lv_icmp_ne (tgt := 254) hx hb dL_does_242 (by decide) (fun c_15 => ?_) (fun c_15 => ?_)
                              · refine lv_iload_n hx hb dL_does_254 rfl (lv_at hl 1 rfl) ?_
                                refine lv_bipush (v := 15) hx hb dL_does_255 (by decide) ?_
                                refine lv_icmp_ne (tgt := 269) hx hb dL_does_257 (by decide) (fun c_16 => ?_) (fun c_16 => ?_)
                                · refine lv_iload_n hx hb dL_does_269 rfl (lv_at hl 1 rfl) ?_
                                  refine lv_bipush (v := 16) hx hb dL_does_270 (by decide) ?_
                                  refine lv_icmp_ne (tgt := 284) hx hb dL_does_272 (by decide) (fun c_17 => ?_) (fun c_17 => ?_)
                                  · exact absurd (show (16 : Int32) = (16 : Int32) from by decide) c_17
                                  · refine lv_aload_n hx hb dL_does_275 rfl (lv_at hl 0 rfl) ?_
                                    refine lv_iload_n hx hb dL_does_276 rfl (lv_at hl 2 rfl) ?_
                                    refine lv_iload_n hx hb dL_does_277 rfl (lv_at hl 3 rfl) ?_
                                    refine zxI (wr := []) (px := fun k9 => (xX7_play ni li mi mv nx al nc nl le wi pr tp gs on il ba kn ho p1 p2) = k9 ∧ k9 ≠ 0) (P0 := (xX7_play ni li mi mv nx al nc nl le wi pr tp gs on il ba kn ho p1 p2) = 0) (r0 := (rX7_play ni li mi mv nx al nc nl le wi pr tp gs on il ba kn ho p1 p2)) (u0 := ((oX7_play_tp ni li mi mv nx al nc nl le wi pr tp gs on il ba kn ho p1 p2), (oX7_play_al ni li mi mv nx al nc nl le wi pr tp gs on il ba kn ho p1 p2), (oX7_play_ni ni li mi mv nx al nc nl le wi pr tp gs on il ba kn ho p1 p2), (oX7_play_mi ni li mi mv nx al nc nl le wi pr tp gs on il ba kn ho p1 p2), (oX7_play_nl ni li mi mv nx al nc nl le wi pr tp gs on il ba kn ho p1 p2))) (vx_runV (As := [.int p1, .int p2]) (rest := []) ⟨hx, hb, hml, hown, hts⟩ (c_X7_play l hfl dC dI cI cJ mh ga gl gw gp gt sg lg kg hg ca la pl rw tw pa s.heap.size ni li mi mv nx al nc nl le wi pr tp gs on il ba kn ho p1 p2 (by assumption) (by assumption) (by assumption)) (cwV 2 hts gL_does_X7_play rfl rfl rfl (by decide +kernel) ⟨Nat.le_of_ble_eq_true rfl, Nat.le_of_ble_eq_true rfl⟩) (zpV hK hP hD hS hA hG [0, 1, 2, 3, 4, 5, 6, 7, 8, 9] (by decide) rfl 7 0 rfl rfl) rfl rfl hl.1 rfl (lv_room (Nat.le_of_ble_eq_true rfl)) dL_does_278 ⟨Nat.le_of_ble_eq_true rfl, Nat.le_of_ble_eq_true rfl⟩) (fun r u h => ⟨h.1, h.2.1, zT5 h.2.2.1 h.2.2.2.1 h.2.2.2.2.1 h.2.2.2.2.2.1 h.2.2.2.2.2.2⟩) hP hD hS hA [0, 1, 2, 3, 4, 5, 6, 7, 8, 9] [] rfl rfl (by decide) (by decide) (fun k9 ce q9 H locs hw_18 hP hS hce hcv hcl => ?_) (fun H locs c_19 hP hD hS => ?_)
                                    · have hk9 : k9 = 1 ∨ k9 = 3 := by have h := bxX7_play ni li mi mv nx al nc nl le wi pr tp gs on il ba kn ho p1 p2; omega
                                      rcases hk9 with rfl | rfl
                                      · have c_19 : ¬ (xX7_play ni li mi mv nx al nc nl le wi pr tp gs on il ba kn ho p1 p2) = 0 := by rw [hw_18.1]; decide
                                        have c_20 : (xX7_play ni li mi mv nx al nc nl le wi pr tp gs on il ba kn ho p1 p2) = 1 := hw_18.1
                                        refine vx_catch (name := zXn 1) hown [] ⟨0, 326, 327, 82⟩ [⟨0, 326, 332, 85⟩, ⟨0, 326, 337, 88⟩] htab (fun z hz => by cases hz) (by decide) (by decide) (hts _ kL_does_16_0) (va_Nw.use rfl (hG.1.2.2.2.1 1)) hce hcv hcl ?_
                                        refine lv_astore (lv' := [(6, .ref q9), (0, .ref mh), (1, .int (16 : Int32)), (2, .int p1), (3, .int p2), (4, .int p3), (5, .int p4)]) hx hb dL_does_327 hl (by decide) rfl (fun ls hl => ?_)
                                        refine lv_ldc (v := -3000000) hx hb hown (hts _ kL_does_16_1) dL_does_329 ?_
                                        refine W.widen (k := 1) (n := 6) (by decide) (by decide) ?_
                                        exact W.iret (v := (-3000000 : Int32)) hx hb hr (fun t ht hW => ⟨⟨(-3000000 : Int32), (tp, al, ni, mi, nl), rfl, ⟨(by unfold rL_does_16; rw [if_neg c_19, if_pos c_20]), (by unfold oL_does_16_tp; rw [if_neg c_19]), (by unfold oL_does_16_al; rw [if_neg c_19]), (by unfold oL_does_16_ni; rw [if_neg c_19]), (by unfold oL_does_16_mi; rw [if_neg c_19]), (by unfold oL_does_16_nl; rw [if_neg c_19])⟩, (by rw [ht]; exact hP.sub [0, 1, 2, 3, 4, 5, 6, 7, 8, 9] rfl), va_K.moved hW.alike hK, hD.sub [0, 1, 2, 3, 4, 5, 6, 7, 8, 9] (by decide) rfl⟩, hS.F ht⟩) hS.2.2 dL_does_331
                                      · have c_19 : ¬ (xX7_play ni li mi mv nx al nc nl le wi pr tp gs on il ba kn ho p1 p2) = 0 := by rw [hw_18.1]; decide
                                        have c_22 : ¬ (xX7_play ni li mi mv nx al nc nl le wi pr tp gs on il ba kn ho p1 p2) = 1 := by rw [hw_18.1]; decide
                                        have c_21 : (xX7_play ni li mi mv nx al nc nl le wi pr tp gs on il ba kn ho p1 p2) = 3 := hw_18.1
                                        refine vx_catch (name := zXn 3) hown [⟨0, 326, 327, 82⟩, ⟨0, 326, 332, 85⟩] ⟨0, 326, 337, 88⟩ [] htab (fun z hz => by rcases (List.mem_cons.mp hz) with rfl | hz; exact Or.inr ⟨by decide, _, (hts _ kL_does_16_0), hG.1.2.2.1 _ (List.mem_of_getElem? (i := 1) rfl)⟩; rcases (List.mem_cons.mp hz) with rfl | hz; exact Or.inr ⟨by decide, _, (hts _ kL_does_16_2), hG.1.2.2.1 _ (List.mem_of_getElem? (i := 2) rfl)⟩; cases hz) (by decide) (by decide) (hts _ kL_does_16_3) (va_Nw.use rfl (hG.1.2.2.2.1 3)) hce hcv hcl ?_
                                        refine lv_astore (lv' := [(6, .ref q9), (0, .ref mh), (1, .int (16 : Int32)), (2, .int p1), (3, .int p2), (4, .int p3), (5, .int p4)]) hx hb dL_does_337 hl (by decide) rfl (fun ls hl => ?_)
                                        refine lv_ldc (v := -1000000) hx hb hown (hts _ kL_does_16_4) dL_does_339 ?_
                                        refine W.widen (k := 1) (n := 6) (by decide) (by decide) ?_
                                        exact W.iret (v := (-1000000 : Int32)) hx hb hr (fun t ht hW => ⟨⟨(-1000000 : Int32), (tp, al, ni, mi, nl), rfl, ⟨(by unfold rL_does_16; rw [if_neg c_19, if_neg c_22]), (by unfold oL_does_16_tp; rw [if_neg c_19]), (by unfold oL_does_16_al; rw [if_neg c_19]), (by unfold oL_does_16_ni; rw [if_neg c_19]), (by unfold oL_does_16_mi; rw [if_neg c_19]), (by unfold oL_does_16_nl; rw [if_neg c_19])⟩, (by rw [ht]; exact hP.sub [0, 1, 2, 3, 4, 5, 6, 7, 8, 9] rfl), va_K.moved hW.alike hK, hD.sub [0, 1, 2, 3, 4, 5, 6, 7, 8, 9] (by decide) rfl⟩, hS.F ht⟩) hS.2.2 dL_does_341
                                    · try dsimp only [List.cons_append, List.nil_append] at hP hD
                                      have hP : va_P (dC, dI) vwCl [(mh, .inr (7, [.ref ca, .ref la, .ref sg, .ref pl, .ref rw, .ref tw, .ref ga, .ref pa, .int (oX7_play_ni ni li mi mv nx al nc nl le wi pr tp gs on il ba kn ho p1 p2), .int li, .int (oX7_play_mi ni li mi mv nx al nc nl le wi pr tp gs on il ba kn ho p1 p2), .int mv, .int nx, .int (oX7_play_al ni li mi mv nx al nc nl le wi pr tp gs on il ba kn ho p1 p2), .int nc, .int (oX7_play_nl ni li mi mv nx al nc nl le wi pr tp gs on il ba kn ho p1 p2)])), (ga, .inr (1, [.ref gl, .ref gw, .ref gp, .ref gt, .int gs])), (gl, .inl (cI, 6, .inl le)), (gw, .inl (cI, 6, .inl wi)), (gp, .inl (cI, 6, .inl pr)), (gt, .inl (cI, 6, .inl (oX7_play_tp ni li mi mv nx al nc nl le wi pr tp gs on il ba kn ho p1 p2))), (sg, .inr (5, [.ref lg, .int on, .int il, .int ba])), (lg, .inr (2, [.ref kg, .ref hg])), (kg, .inl (cI, 4, .inl kn)), (hg, .inl (cI, 4, .inl ho))] H := hP
                                      have hD : va_D A [(mh, .inr (7, [.ref ca, .ref la, .ref sg, .ref pl, .ref rw, .ref tw, .ref ga, .ref pa, .int (oX7_play_ni ni li mi mv nx al nc nl le wi pr tp gs on il ba kn ho p1 p2), .int li, .int (oX7_play_mi ni li mi mv nx al nc nl le wi pr tp gs on il ba kn ho p1 p2), .int mv, .int nx, .int (oX7_play_al ni li mi mv nx al nc nl le wi pr tp gs on il ba kn ho p1 p2), .int nc, .int (oX7_play_nl ni li mi mv nx al nc nl le wi pr tp gs on il ba kn ho p1 p2)])), (ga, .inr (1, [.ref gl, .ref gw, .ref gp, .ref gt, .int gs])), (gl, .inl (cI, 6, .inl le)), (gw, .inl (cI, 6, .inl wi)), (gp, .inl (cI, 6, .inl pr)), (gt, .inl (cI, 6, .inl (oX7_play_tp ni li mi mv nx al nc nl le wi pr tp gs on il ba kn ho p1 p2))), (sg, .inr (5, [.ref lg, .int on, .int il, .int ba])), (lg, .inr (2, [.ref kg, .ref hg])), (kg, .inl (cI, 4, .inl kn)), (hg, .inl (cI, 4, .inl ho))] := hD
                                      refine lv_goto (tgt := 326) hx hb dL_does_281 (by decide) ?_
                                      refine W.widen (k := 1) (n := 6) (by decide) (by decide) ?_
                                      exact W.iret (v := (rX7_play ni li mi mv nx al nc nl le wi pr tp gs on il ba kn ho p1 p2)) hx hb hr (fun t ht hW => ⟨⟨(rX7_play ni li mi mv nx al nc nl le wi pr tp gs on il ba kn ho p1 p2), ((oX7_play_tp ni li mi mv nx al nc nl le wi pr tp gs on il ba kn ho p1 p2), (oX7_play_al ni li mi mv nx al nc nl le wi pr tp gs on il ba kn ho p1 p2), (oX7_play_ni ni li mi mv nx al nc nl le wi pr tp gs on il ba kn ho p1 p2), (oX7_play_mi ni li mi mv nx al nc nl le wi pr tp gs on il ba kn ho p1 p2), (oX7_play_nl ni li mi mv nx al nc nl le wi pr tp gs on il ba kn ho p1 p2)), rfl, ⟨(by unfold rL_does_16; rw [if_pos c_19]), (by unfold oL_does_16_tp; rw [if_pos c_19]), (by unfold oL_does_16_al; rw [if_pos c_19]), (by unfold oL_does_16_ni; rw [if_pos c_19]), (by unfold oL_does_16_mi; rw [if_pos c_19]), (by unfold oL_does_16_nl; rw [if_pos c_19])⟩, (by rw [ht]; exact hP.sub [0, 1, 2, 3, 4, 5, 6, 7, 8, 9] rfl), va_K.moved hW.alike hK, hD.sub [0, 1, 2, 3, 4, 5, 6, 7, 8, 9] (by decide) rfl⟩, hS.F ht⟩) hS.2.2 dL_does_326
                                · exact absurd c_16 (by decide)
                              · exact absurd c_15 (by decide)
                            · exact absurd c_14 (by decide)
                          · exact absurd c_13 (by decide)
                        · exact absurd c_12 (by decide)
                      · exact absurd c_11 (by decide)
                    · exact absurd c_10 (by decide)
                  · exact absurd c_9 (by decide)
                · exact absurd c_8 (by decide)
              · exact absurd c_7 (by decide)
            · exact absurd c_6 (by decide)
          · exact absurd c_5 (by decide)
        · exact absurd c_4 (by decide)
      · exact absurd c_3 (by decide)
    · exact absurd c_2 (by decide)
  · exact absurd c_1 (by decide)

/-! L_does -/
def rL_does_17 (ni : Int32) (li : Int32) (mi : Int32) (mv : Int32) (nx : Int32) (al : Int32) (nc : Int32) (nl : Int32) (kb0 : Nat → Int32) (hb0 : Nat → Int32) (on : Int32) (il : Int32) (ba : Int32) (kn : Nat → Int32) (ho : Nat → Int32) (p1 : Int32) (p2 : Int32) (p3 : Int32) (p4 : Int32) : Int32 := (if (xX7_isKnown ni li mi mv nx al nc nl kb0 hb0 on il ba kn ho p1 p2) = 0 then (if (rX7_isKnown ni li mi mv nx al nc nl kb0 hb0 on il ba kn ho p1 p2) = 0 then (0 : Int32) else (1 : Int32)) else (-3000000 : Int32))
set_option maxRecDepth 20000 in
theorem kL_does_17_0 : Cond.classLink RL 82 "java/lang/IndexOutOfBoundsException" ∈ wsL_does := by decide +kernel
set_option maxRecDepth 20000 in
theorem kL_does_17_1 : Cond.constant RL 84 (-3000000) ∈ wsL_does := by decide +kernel
set_option maxHeartbeats 1560000 in
set_option maxRecDepth 100000 in
theorem c_L_does_17 (l : Launch) (hfl : l.stackTraces = false) (dC : Nat → ClassId) (dI : Nat → Nat → Nat) (cI cJ : ClassId) (mh la ka hh sg lg kg hg ca pl rw tw ga pa : Nat) (sz : Nat) (ni : Int32) (li : Int32) (mi : Int32) (mv : Int32) (nx : Int32) (al : Int32) (nc : Int32) (nl : Int32) (kb0 : Nat → Int32) (hb0 : Nat → Int32) (on : Int32) (il : Int32) (ba : Int32) (kn : Nat → Int32) (ho : Nat → Int32) (p1 : Int32) (p2 : Int32) (p3 : Int32) (p4 : Int32) : Met l yL_does wsL_does ({ frames := 8, cells := 1, slots := 6, locals := 124 }) (va_Pc [.ref mh, .int (17 : Int32), .int p1, .int p2, .int p3, .int p4] (zI (dC, dI) [(cI, .int), (cJ, .long)] [(mh, .inr (7, [.ref ca, .ref la, .ref sg, .ref pl, .ref rw, .ref tw, .ref ga, .ref pa, .int ni, .int li, .int mi, .int mv, .int nx, .int al, .int nc, .int nl])), (la, .inr (2, [.ref ka, .ref hh])), (ka, .inl (cI, 4, .inl kb0)), (hh, .inl (cI, 4, .inl hb0)), (sg, .inr (5, [.ref lg, .int on, .int il, .int ba])), (lg, .inr (2, [.ref kg, .ref hg])), (kg, .inl (cI, 4, .inl kn)), (hg, .inl (cI, 4, .inl ho))] sz)) (va_Qi (fun (r : Int32) (u : Unit) => r = rL_does_17 ni li mi mv nx al nc nl kb0 hb0 on il ba kn ho p1 p2 p3 p4) (fun u => zO (dC, dI) [(cI, .int), (cJ, .long)] [(mh, .inr (7, [.ref ca, .ref la, .ref sg, .ref pl, .ref rw, .ref tw, .ref ga, .ref pa, .int ni, .int li, .int mi, .int mv, .int nx, .int al, .int nc, .int nl])), (la, .inr (2, [.ref ka, .ref hh])), (ka, .inl (cI, 4, .inl kb0)), (hh, .inl (cI, 4, .inl hb0)), (sg, .inr (5, [.ref lg, .int on, .int il, .int ba])), (lg, .inr (2, [.ref kg, .ref hg])), (kg, .inl (cI, 4, .inl kn)), (hg, .inl (cI, 4, .inl ho))] (va_A [(mh, .inr (7, [.ref ca, .ref la, .ref sg, .ref pl, .ref rw, .ref tw, .ref ga, .ref pa, .int ni, .int li, .int mi, .int mv, .int nx, .int al, .int nc, .int nl])), (la, .inr (2, [.ref ka, .ref hh])), (ka, .inl (cI, 4, .inl kb0)), (hh, .inl (cI, 4, .inl hb0)), (sg, .inr (5, [.ref lg, .int on, .int il, .int ba])), (lg, .inr (2, [.ref kg, .ref hg])), (kg, .inl (cI, 4, .inl kn)), (hg, .inl (cI, 4, .inl ho))] sz)) (va_A [(mh, .inr (7, [.ref ca, .ref la, .ref sg, .ref pl, .ref rw, .ref tw, .ref ga, .ref pa, .int ni, .int li, .int mi, .int mv, .int nx, .int al, .int nc, .int nl])), (la, .inr (2, [.ref ka, .ref hh])), (ka, .inl (cI, 4, .inl kb0)), (hh, .inl (cI, 4, .inl hb0)), (sg, .inr (5, [.ref lg, .int on, .int il, .int ba])), (lg, .inr (2, [.ref kg, .ref hg])), (kg, .inl (cI, 4, .inl kn)), (hg, .inl (cI, 4, .inl ho))] sz)) 1 6 (va_A [(mh, .inr (7, [.ref ca, .ref la, .ref sg, .ref pl, .ref rw, .ref tw, .ref ga, .ref pa, .int ni, .int li, .int mi, .int mv, .int nx, .int al, .int nc, .int nl])), (la, .inr (2, [.ref ka, .ref hh])), (ka, .inl (cI, 4, .inl kb0)), (hh, .inl (cI, 4, .inl hb0)), (sg, .inr (5, [.ref lg, .int on, .int il, .int ba])), (lg, .inr (2, [.ref kg, .ref hg])), (kg, .inl (cI, 4, .inl kn)), (hg, .inl (cI, 4, .inl ho))] sz) := by
  refine va_MetW (cc := cL_does) (maxL := 7) (ret := (some .int)) (by decide) rfl ?_
  intro p e s m args below meth c s₁ B hml hv
  obtain ⟨rfl, hsz, hP, hK, hD0, hG⟩ := hv
  have hx := B.exec
  have hb := B.bytes
  have hr := B.returns
  have hts := atoms_spec (ws := wsL_does) B.pre
  have hown : s.vm.findClass RL = some m.cls := findClass_of_methodNamed B.named
  have hlocks := B.notSynchronized
  have htab := vx_table (x := yL_does) (y := yL_does) B (hts _ List.mem_cons_self)
  subst hsz
  have hD := hD0.self (sz := s.heap.size)
  generalize hAe : va_A [(mh, .inr (7, [.ref ca, .ref la, .ref sg, .ref pl, .ref rw, .ref tw, .ref ga, .ref pa, .int ni, .int li, .int mi, .int mv, .int nx, .int al, .int nc, .int nl])), (la, .inr (2, [.ref ka, .ref hh])), (ka, .inl (cI, 4, .inl kb0)), (hh, .inl (cI, 4, .inl hb0)), (sg, .inr (5, [.ref lg, .int on, .int il, .int ba])), (lg, .inr (2, [.ref kg, .ref hg])), (kg, .inl (cI, 4, .inl kn)), (hg, .inl (cI, 4, .inl ho))] s.heap.size = A at hD hG ⊢
  have hA : ∀ q : Nat, s.heap.size ≤ q → A q := fun q h => by rw [← hAe]; exact Or.inr h
  have hS : va_S A s.heap s.heap [] := va_S.rf
  have hP : va_P (dC, dI) vwCl [(mh, .inr (7, [.ref ca, .ref la, .ref sg, .ref pl, .ref rw, .ref tw, .ref ga, .ref pa, .int ni, .int li, .int mi, .int mv, .int nx, .int al, .int nc, .int nl])), (la, .inr (2, [.ref ka, .ref hh])), (ka, .inl (cI, 4, .inl kb0)), (hh, .inl (cI, 4, .inl hb0)), (sg, .inr (5, [.ref lg, .int on, .int il, .int ba])), (lg, .inr (2, [.ref kg, .ref hg])), (kg, .inl (cI, 4, .inl kn)), (hg, .inl (cI, 4, .inl ho))] s.heap := hP
  have hl := lv_entry ([.ref mh, .int (17 : Int32), .int p1, .int p2, .int p3, .int p4]) (n := 7) (Nat.le_of_ble_eq_true rfl)
  rw [lg_entry_eq]
  generalize (lg_sl ([.ref mh, .int (17 : Int32), .int p1, .int p2, .int p3, .int p4]) ++ List.replicate (7 - (lg_sl ([.ref mh, .int (17 : Int32), .int p1, .int p2, .int p3, .int p4])).length) Slot.unset).toArray = ls at hl ⊢
  have hl : lv_has ls 7 [(0, .ref mh), (1, .int (17 : Int32)), (2, .int p1), (3, .int p2), (4, .int p3), (5, .int p4)] := hl
  refine lv_iload_n hx hb dL_does_0 rfl (lv_at hl 1 rfl) ?_
  refine lv_if_ne (tgt := 32) hx hb dL_does_1 (by decide) (fun c_1 => ?_) (fun c_1 => ?_)
  · refine lv_iload_n hx hb dL_does_32 rfl (lv_at hl 1 rfl) ?_
    refine lv_iconst (v := 1) hx hb dL_does_33 (by decide) ?_
    refine lv_icmp_ne (tgt := 46) hx hb dL_does_34 (by decide) (fun c_2 => ?_) (fun c_2 => ?_)
    · refine lv_iload_n hx hb dL_does_46 rfl (lv_at hl 1 rfl) ?_
      refine lv_iconst (v := 2) hx hb dL_does_47 (by decide) ?_
      refine lv_icmp_ne (tgt := 64) hx hb dL_does_48 (by decide) (fun c_3 => ?_) (fun c_3 => ?_)
      · refine lv_iload_n hx hb dL_does_64 rfl (lv_at hl 1 rfl) ?_
        refine lv_iconst (v := 3) hx hb dL_does_65 (by decide) ?_
        refine lv_icmp_ne (tgt := 76) hx hb dL_does_66 (by decide) (fun c_4 => ?_) (fun c_4 => ?_)
        · refine lv_iload_n hx hb dL_does_76 rfl (lv_at hl 1 rfl) ?_
          refine lv_iconst (v := 4) hx hb dL_does_77 (by decide) ?_
          refine lv_icmp_ne (tgt := 97) hx hb dL_does_78 (by decide) (fun c_5 => ?_) (fun c_5 => ?_)
          · refine lv_iload_n hx hb dL_does_97 rfl (lv_at hl 1 rfl) ?_
            refine lv_iconst (v := 5) hx hb dL_does_98 (by decide) ?_
            refine lv_icmp_ne (tgt := 118) hx hb dL_does_99 (by decide) (fun c_6 => ?_) (fun c_6 => ?_)
            · refine lv_iload_n hx hb dL_does_118 rfl (lv_at hl 1 rfl) ?_
              refine lv_bipush (v := 6) hx hb dL_does_119 (by decide) ?_
              refine lv_icmp_ne (tgt := 131) hx hb dL_does_121 (by decide) (fun c_7 => ?_) (fun c_7 => ?_)
              · refine lv_iload_n hx hb dL_does_131 rfl (lv_at hl 1 rfl) ?_
                refine lv_bipush (v := 7) hx hb dL_does_132 (by decide) ?_
                refine lv_icmp_ne (tgt := 148) hx hb dL_does_134 (by decide) (fun c_8 => ?_) (fun c_8 => ?_)
                · refine lv_iload_n hx hb dL_does_148 rfl (lv_at hl 1 rfl) ?_
                  refine lv_bipush (v := 8) hx hb dL_does_149 (by decide) ?_
                  refine lv_icmp_ne (tgt := 163) hx hb dL_does_151 (by decide) (fun c_9 => ?_) (fun c_9 => ?_)
                  · refine lv_iload_n hx hb dL_does_163 rfl (lv_at hl 1 rfl) ?_
                    refine lv_bipush (v := 9) hx hb dL_does_164 (by decide) ?_
                    refine lv_icmp_ne (tgt := 177) hx hb dL_does_166 (by decide) (fun c_10 => ?_) (fun c_10 => ?_)
                    · refine lv_iload_n hx hb dL_does_177 rfl (lv_at hl 1 rfl) ?_
                      refine lv_bipush (v := 10) hx hb dL_does_178 (by decide) ?_
                      refine lv_icmp_ne (tgt := 191) hx hb dL_does_180 (by decide) (fun c_11 => ?_) (fun c_11 => ?_)
                      · refine lv_iload_n hx hb dL_does_191 rfl (lv_at hl 1 rfl) ?_
                        refine lv_bipush (v := 11) hx hb dL_does_192 (by decide) ?_
                        refine lv_icmp_ne (tgt := 205) hx hb dL_does_194 (by decide) (fun c_12 => ?_) (fun c_12 => ?_)
                        · refine lv_iload_n hx hb dL_does_205 rfl (lv_at hl 1 rfl) ?_
                          refine lv_bipush (v := 12) hx hb dL_does_206 (by decide) ?_
                          refine lv_icmp_ne (tgt := 222) hx hb dL_does_208 (by decide) (fun c_13 => ?_) (fun c_13 => ?_)
                          · refine lv_iload_n hx hb dL_does_222 rfl (lv_at hl 1 rfl) ?_
                            refine lv_bipush (v := 13) hx hb dL_does_223 (by decide) ?_
                            refine lv_icmp_ne (tgt := 239) hx hb dL_does_225 (by decide) (fun c_14 => ?_) (fun c_14 => ?_)
                            · refine lv_iload_n hx hb dL_does_239 rfl (lv_at hl 1 rfl) ?_
                              refine lv_bipush (v := 14) hx hb dL_does_240 (by decide) ?_
                              refine lv_icmp_ne (tgt := 254) hx hb dL_does_242 (by decide) (fun c_15 => ?_) (fun c_15 => ?_)
                              · refine lv_iload_n hx hb dL_does_254 rfl (lv_at hl 1 rfl) ?_
                                refine lv_bipush (v := 15) hx hb dL_does_255 (by decide) ?_
                                refine lv_icmp_ne (tgt := 269) hx hb dL_does_257 (by decide) (fun c_16 => ?_) (fun c_16 => ?_)
                                · refine lv_iload_n hx hb dL_does_269 rfl (lv_at hl 1 rfl) ?_
                                  refine lv_bipush (v := 16) hx hb dL_does_270 (by decide) ?_
                                  refine lv_icmp_ne (tgt := 284) hx hb dL_does_272 (by decide) (fun c_17 => ?_) (fun c_17 => ?_)
                                  · refine lv_iload_n hx hb dL_does_284 rfl (lv_at hl 1 rfl) ?_
                                    refine lv_bipush (v := 17) hx hb dL_does_285 (by decide) ?_
                                    refine lv_icmp_ne (tgt := 307) hx hb dL_does_287 (by decide) (fun c_18 => ?_) (fun c_18 => ?_)
                                    · exact absurd (show (17 : Int32) = (17 : Int32) from by decide) c_18
                                    · refine lv_aload_n hx hb dL_does_290 rfl (lv_at hl 0 rfl) ?_
                                      refine lv_iload_n hx hb dL_does_291 rfl (lv_at hl 2 rfl) ?_
                                      refine lv_iload_n hx hb dL_does_292 rfl (lv_at hl 3 rfl) ?_
                                      refine zxR (px := fun k9 => (xX7_isKnown ni li mi mv nx al nc nl kb0 hb0 on il ba kn ho p1 p2) = k9 ∧ k9 ≠ 0) (P0 := (xX7_isKnown ni li mi mv nx al nc nl kb0 hb0 on il ba kn ho p1 p2) = 0) (r0 := (rX7_isKnown ni li mi mv nx al nc nl kb0 hb0 on il ba kn ho p1 p2)) (vx_runV (As := [.int p1, .int p2]) (rest := []) ⟨hx, hb, hml, hown, hts⟩ (c_X7_isKnown l hfl dC dI cI cJ mh la ka hh sg lg kg hg ca pl rw tw ga pa s.heap.size ni li mi mv nx al nc nl kb0 hb0 on il ba kn ho p1 p2 ) (cwV 2 hts gL_does_X7_isKnown rfl rfl rfl (by decide +kernel) ⟨Nat.le_of_ble_eq_true rfl, Nat.le_of_ble_eq_true rfl⟩) (zpV hK hP hD hS hA hG [0, 1, 2, 3, 4, 5, 6, 7] (by decide) rfl 7 0 rfl rfl) rfl rfl hl.1 rfl (lv_room (Nat.le_of_ble_eq_true rfl)) dL_does_293 ⟨Nat.le_of_ble_eq_true rfl, Nat.le_of_ble_eq_true rfl⟩) hP hS hA (fun k9 ce q9 H locs hw_19 hP hS hce hcv hcl => ?_) (fun c_20 => ?_)
                                      · have hk9 : k9 = 1 := by have h := bxX7_isKnown ni li mi mv nx al nc nl kb0 hb0 on il ba kn ho p1 p2; omega
                                        subst hk9
                                        have c_20 : ¬ (xX7_isKnown ni li mi mv nx al nc nl kb0 hb0 on il ba kn ho p1 p2) = 0 := by rw [hw_19.1]; decide
                                        have c_21 : (xX7_isKnown ni li mi mv nx al nc nl kb0 hb0 on il ba kn ho p1 p2) = 1 := hw_19.1
                                        refine vx_catch (name := zXn 1) hown [] ⟨0, 326, 327, 82⟩ [⟨0, 326, 332, 85⟩, ⟨0, 326, 337, 88⟩] htab (fun z hz => by cases hz) (by decide) (by decide) (hts _ kL_does_17_0) (va_Nw.use rfl (hG.1.2.2.2.1 1)) hce hcv hcl ?_
                                        refine lv_astore (lv' := [(6, .ref q9), (0, .ref mh), (1, .int (17 : Int32)), (2, .int p1), (3, .int p2), (4, .int p3), (5, .int p4)]) hx hb dL_does_327 hl (by decide) rfl (fun ls hl => ?_)
                                        refine lv_ldc (v := -3000000) hx hb hown (hts _ kL_does_17_1) dL_does_329 ?_
                                        refine W.widen (k := 1) (n := 6) (by decide) (by decide) ?_
                                        exact W.iret (v := (-3000000 : Int32)) hx hb hr (fun t ht hW => ⟨⟨(-3000000 : Int32), (), rfl, (by unfold rL_does_17; rw [if_neg c_20]), (by rw [ht]; exact hP.sub [0, 1, 2, 3, 4, 5, 6, 7] rfl), va_K.moved hW.alike hK, hD.sub [0, 1, 2, 3, 4, 5, 6, 7] (by decide) rfl⟩, hS.F ht⟩) hS.2.2 dL_does_331
                                      · skip
                                        refine lv_if_eq (tgt := 303) hx hb dL_does_296 (by decide) (fun c_22 => ?_) (fun c_22 => ?_)
                                        · refine lv_iconst (v := 0) hx hb dL_does_303 (by decide) ?_
                                          refine lv_goto (tgt := 326) hx hb dL_does_304 (by decide) ?_
                                          refine W.widen (k := 1) (n := 6) (by decide) (by decide) ?_
                                          exact W.iret (v := (0 : Int32)) hx hb hr (fun t ht hW => ⟨⟨(0 : Int32), (), rfl, (by unfold rL_does_17; rw [if_pos c_20, if_pos c_22]), (by rw [ht]; exact hP.sub [0, 1, 2, 3, 4, 5, 6, 7] rfl), va_K.moved hW.alike hK, hD.sub [0, 1, 2, 3, 4, 5, 6, 7] (by decide) rfl⟩, hS.F ht⟩) hS.2.2 dL_does_326
                                        · refine lv_iconst (v := 1) hx hb dL_does_299 (by decide) ?_
                                          refine lv_goto (tgt := 326) hx hb dL_does_300 (by decide) ?_
                                          refine W.widen (k := 1) (n := 6) (by decide) (by decide) ?_
                                          exact W.iret (v := (1 : Int32)) hx hb hr (fun t ht hW => ⟨⟨(1 : Int32), (), rfl, (by unfold rL_does_17; rw [if_pos c_20, if_neg c_22]), (by rw [ht]; exact hP.sub [0, 1, 2, 3, 4, 5, 6, 7] rfl), va_K.moved hW.alike hK, hD.sub [0, 1, 2, 3, 4, 5, 6, 7] (by decide) rfl⟩, hS.F ht⟩) hS.2.2 dL_does_326
                                  · exact absurd c_17 (by decide)
                                · exact absurd c_16 (by decide)
                              · exact absurd c_15 (by decide)
                            · exact absurd c_14 (by decide)
                          · exact absurd c_13 (by decide)
                        · exact absurd c_12 (by decide)
                      · exact absurd c_11 (by decide)
                    · exact absurd c_10 (by decide)
                  · exact absurd c_9 (by decide)
                · exact absurd c_8 (by decide)
              · exact absurd c_7 (by decide)
            · exact absurd c_6 (by decide)
          · exact absurd c_5 (by decide)
        · exact absurd c_4 (by decide)
      · exact absurd c_3 (by decide)
    · exact absurd c_2 (by decide)
  · exact absurd c_1 (by decide)

/-! L_does -/
def rL_does_18 (ni : Int32) (li : Int32) (mi : Int32) (mv : Int32) (nx : Int32) (al : Int32) (nc : Int32) (nl : Int32) (kb0 : Nat → Int32) (hb0 : Nat → Int32) (on : Int32) (il : Int32) (ba : Int32) (kn : Nat → Int32) (ho : Nat → Int32) (p1 : Int32) (p2 : Int32) (p3 : Int32) (p4 : Int32) : Int32 := (if (xX7_holder ni li mi mv nx al nc nl kb0 hb0 on il ba kn ho p1) = 0 then (rX7_holder ni li mi mv nx al nc nl kb0 hb0 on il ba kn ho p1) else (-3000000 : Int32))
set_option maxRecDepth 20000 in
theorem kL_does_18_0 : Cond.classLink RL 82 "java/lang/IndexOutOfBoundsException" ∈ wsL_does := by decide +kernel
set_option maxRecDepth 20000 in
theorem kL_does_18_1 : Cond.constant RL 84 (-3000000) ∈ wsL_does := by decide +kernel
set_option maxHeartbeats 1500000 in
set_option maxRecDepth 100000 in
theorem c_L_does_18 (l : Launch) (hfl : l.stackTraces = false) (dC : Nat → ClassId) (dI : Nat → Nat → Nat) (cI cJ : ClassId) (mh la ka hh sg lg kg hg ca pl rw tw ga pa : Nat) (sz : Nat) (ni : Int32) (li : Int32) (mi : Int32) (mv : Int32) (nx : Int32) (al : Int32) (nc : Int32) (nl : Int32) (kb0 : Nat → Int32) (hb0 : Nat → Int32) (on : Int32) (il : Int32) (ba : Int32) (kn : Nat → Int32) (ho : Nat → Int32) (p1 : Int32) (p2 : Int32) (p3 : Int32) (p4 : Int32) : Met l yL_does wsL_does ({ frames := 8, cells := 1, slots := 6, locals := 123 }) (va_Pc [.ref mh, .int (18 : Int32), .int p1, .int p2, .int p3, .int p4] (zI (dC, dI) [(cI, .int), (cJ, .long)] [(mh, .inr (7, [.ref ca, .ref la, .ref sg, .ref pl, .ref rw, .ref tw, .ref ga, .ref pa, .int ni, .int li, .int mi, .int mv, .int nx, .int al, .int nc, .int nl])), (la, .inr (2, [.ref ka, .ref hh])), (ka, .inl (cI, 4, .inl kb0)), (hh, .inl (cI, 4, .inl hb0)), (sg, .inr (5, [.ref lg, .int on, .int il, .int ba])), (lg, .inr (2, [.ref kg, .ref hg])), (kg, .inl (cI, 4, .inl kn)), (hg, .inl (cI, 4, .inl ho))] sz)) (va_Qi (fun (r : Int32) (u : Unit) => r = rL_does_18 ni li mi mv nx al nc nl kb0 hb0 on il ba kn ho p1 p2 p3 p4) (fun u => zO (dC, dI) [(cI, .int), (cJ, .long)] [(mh, .inr (7, [.ref ca, .ref la, .ref sg, .ref pl, .ref rw, .ref tw, .ref ga, .ref pa, .int ni, .int li, .int mi, .int mv, .int nx, .int al, .int nc, .int nl])), (la, .inr (2, [.ref ka, .ref hh])), (ka, .inl (cI, 4, .inl kb0)), (hh, .inl (cI, 4, .inl hb0)), (sg, .inr (5, [.ref lg, .int on, .int il, .int ba])), (lg, .inr (2, [.ref kg, .ref hg])), (kg, .inl (cI, 4, .inl kn)), (hg, .inl (cI, 4, .inl ho))] (va_A [(mh, .inr (7, [.ref ca, .ref la, .ref sg, .ref pl, .ref rw, .ref tw, .ref ga, .ref pa, .int ni, .int li, .int mi, .int mv, .int nx, .int al, .int nc, .int nl])), (la, .inr (2, [.ref ka, .ref hh])), (ka, .inl (cI, 4, .inl kb0)), (hh, .inl (cI, 4, .inl hb0)), (sg, .inr (5, [.ref lg, .int on, .int il, .int ba])), (lg, .inr (2, [.ref kg, .ref hg])), (kg, .inl (cI, 4, .inl kn)), (hg, .inl (cI, 4, .inl ho))] sz)) (va_A [(mh, .inr (7, [.ref ca, .ref la, .ref sg, .ref pl, .ref rw, .ref tw, .ref ga, .ref pa, .int ni, .int li, .int mi, .int mv, .int nx, .int al, .int nc, .int nl])), (la, .inr (2, [.ref ka, .ref hh])), (ka, .inl (cI, 4, .inl kb0)), (hh, .inl (cI, 4, .inl hb0)), (sg, .inr (5, [.ref lg, .int on, .int il, .int ba])), (lg, .inr (2, [.ref kg, .ref hg])), (kg, .inl (cI, 4, .inl kn)), (hg, .inl (cI, 4, .inl ho))] sz)) 1 6 (va_A [(mh, .inr (7, [.ref ca, .ref la, .ref sg, .ref pl, .ref rw, .ref tw, .ref ga, .ref pa, .int ni, .int li, .int mi, .int mv, .int nx, .int al, .int nc, .int nl])), (la, .inr (2, [.ref ka, .ref hh])), (ka, .inl (cI, 4, .inl kb0)), (hh, .inl (cI, 4, .inl hb0)), (sg, .inr (5, [.ref lg, .int on, .int il, .int ba])), (lg, .inr (2, [.ref kg, .ref hg])), (kg, .inl (cI, 4, .inl kn)), (hg, .inl (cI, 4, .inl ho))] sz) := by
  refine va_MetW (cc := cL_does) (maxL := 7) (ret := (some .int)) (by decide) rfl ?_
  intro p e s m args below meth c s₁ B hml hv
  obtain ⟨rfl, hsz, hP, hK, hD0, hG⟩ := hv
  have hx := B.exec
  have hb := B.bytes
  have hr := B.returns
  have hts := atoms_spec (ws := wsL_does) B.pre
  have hown : s.vm.findClass RL = some m.cls := findClass_of_methodNamed B.named
  have hlocks := B.notSynchronized
  have htab := vx_table (x := yL_does) (y := yL_does) B (hts _ List.mem_cons_self)
  subst hsz
  have hD := hD0.self (sz := s.heap.size)
  generalize hAe : va_A [(mh, .inr (7, [.ref ca, .ref la, .ref sg, .ref pl, .ref rw, .ref tw, .ref ga, .ref pa, .int ni, .int li, .int mi, .int mv, .int nx, .int al, .int nc, .int nl])), (la, .inr (2, [.ref ka, .ref hh])), (ka, .inl (cI, 4, .inl kb0)), (hh, .inl (cI, 4, .inl hb0)), (sg, .inr (5, [.ref lg, .int on, .int il, .int ba])), (lg, .inr (2, [.ref kg, .ref hg])), (kg, .inl (cI, 4, .inl kn)), (hg, .inl (cI, 4, .inl ho))] s.heap.size = A at hD hG ⊢
  have hA : ∀ q : Nat, s.heap.size ≤ q → A q := fun q h => by rw [← hAe]; exact Or.inr h
  have hS : va_S A s.heap s.heap [] := va_S.rf
  have hP : va_P (dC, dI) vwCl [(mh, .inr (7, [.ref ca, .ref la, .ref sg, .ref pl, .ref rw, .ref tw, .ref ga, .ref pa, .int ni, .int li, .int mi, .int mv, .int nx, .int al, .int nc, .int nl])), (la, .inr (2, [.ref ka, .ref hh])), (ka, .inl (cI, 4, .inl kb0)), (hh, .inl (cI, 4, .inl hb0)), (sg, .inr (5, [.ref lg, .int on, .int il, .int ba])), (lg, .inr (2, [.ref kg, .ref hg])), (kg, .inl (cI, 4, .inl kn)), (hg, .inl (cI, 4, .inl ho))] s.heap := hP
  have hl := lv_entry ([.ref mh, .int (18 : Int32), .int p1, .int p2, .int p3, .int p4]) (n := 7) (Nat.le_of_ble_eq_true rfl)
  rw [lg_entry_eq]
  generalize (lg_sl ([.ref mh, .int (18 : Int32), .int p1, .int p2, .int p3, .int p4]) ++ List.replicate (7 - (lg_sl ([.ref mh, .int (18 : Int32), .int p1, .int p2, .int p3, .int p4])).length) Slot.unset).toArray = ls at hl ⊢
  have hl : lv_has ls 7 [(0, .ref mh), (1, .int (18 : Int32)), (2, .int p1), (3, .int p2), (4, .int p3), (5, .int p4)] := hl
  refine lv_iload_n hx hb dL_does_0 rfl (lv_at hl 1 rfl) ?_
  refine lv_if_ne (tgt := 32) hx hb dL_does_1 (by decide) (fun c_1 => ?_) (fun c_1 => ?_)
  · refine lv_iload_n hx hb dL_does_32 rfl (lv_at hl 1 rfl) ?_
    refine lv_iconst (v := 1) hx hb dL_does_33 (by decide) ?_
    refine lv_icmp_ne (tgt := 46) hx hb dL_does_34 (by decide) (fun c_2 => ?_) (fun c_2 => ?_)
    · refine lv_iload_n hx hb dL_does_46 rfl (lv_at hl 1 rfl) ?_
      refine lv_iconst (v := 2) hx hb dL_does_47 (by decide) ?_
      refine lv_icmp_ne (tgt := 64) hx hb dL_does_48 (by decide) (fun c_3 => ?_) (fun c_3 => ?_)
      · refine lv_iload_n hx hb dL_does_64 rfl (lv_at hl 1 rfl) ?_
        refine lv_iconst (v := 3) hx hb dL_does_65 (by decide) ?_
        refine lv_icmp_ne (tgt := 76) hx hb dL_does_66 (by decide) (fun c_4 => ?_) (fun c_4 => ?_)
        · refine lv_iload_n hx hb dL_does_76 rfl (lv_at hl 1 rfl) ?_
          refine lv_iconst (v := 4) hx hb dL_does_77 (by decide) ?_
          refine lv_icmp_ne (tgt := 97) hx hb dL_does_78 (by decide) (fun c_5 => ?_) (fun c_5 => ?_)
          · refine lv_iload_n hx hb dL_does_97 rfl (lv_at hl 1 rfl) ?_
            refine lv_iconst (v := 5) hx hb dL_does_98 (by decide) ?_
            refine lv_icmp_ne (tgt := 118) hx hb dL_does_99 (by decide) (fun c_6 => ?_) (fun c_6 => ?_)
            · refine lv_iload_n hx hb dL_does_118 rfl (lv_at hl 1 rfl) ?_
              refine lv_bipush (v := 6) hx hb dL_does_119 (by decide) ?_
              refine lv_icmp_ne (tgt := 131) hx hb dL_does_121 (by decide) (fun c_7 => ?_) (fun c_7 => ?_)
              · refine lv_iload_n hx hb dL_does_131 rfl (lv_at hl 1 rfl) ?_
                refine lv_bipush (v := 7) hx hb dL_does_132 (by decide) ?_
                refine lv_icmp_ne (tgt := 148) hx hb dL_does_134 (by decide) (fun c_8 => ?_) (fun c_8 => ?_)
                · refine lv_iload_n hx hb dL_does_148 rfl (lv_at hl 1 rfl) ?_
                  refine lv_bipush (v := 8) hx hb dL_does_149 (by decide) ?_
                  refine lv_icmp_ne (tgt := 163) hx hb dL_does_151 (by decide) (fun c_9 => ?_) (fun c_9 => ?_)
                  · refine lv_iload_n hx hb dL_does_163 rfl (lv_at hl 1 rfl) ?_
                    refine lv_bipush (v := 9) hx hb dL_does_164 (by decide) ?_
                    refine lv_icmp_ne (tgt := 177) hx hb dL_does_166 (by decide) (fun c_10 => ?_) (fun c_10 => ?_)
                    · refine lv_iload_n hx hb dL_does_177 rfl (lv_at hl 1 rfl) ?_
                      refine lv_bipush (v := 10) hx hb dL_does_178 (by decide) ?_
                      refine lv_icmp_ne (tgt := 191) hx hb dL_does_180 (by decide) (fun c_11 => ?_) (fun c_11 => ?_)
                      · refine lv_iload_n hx hb dL_does_191 rfl (lv_at hl 1 rfl) ?_
                        refine lv_bipush (v := 11) hx hb dL_does_192 (by decide) ?_
                        refine lv_icmp_ne (tgt := 205) hx hb dL_does_194 (by decide) (fun c_12 => ?_) (fun c_12 => ?_)
                        · refine lv_iload_n hx hb dL_does_205 rfl (lv_at hl 1 rfl) ?_
                          refine lv_bipush (v := 12) hx hb dL_does_206 (by decide) ?_
                          refine lv_icmp_ne (tgt := 222) hx hb dL_does_208 (by decide) (fun c_13 => ?_) (fun c_13 => ?_)
                          · refine lv_iload_n hx hb dL_does_222 rfl (lv_at hl 1 rfl) ?_
                            refine lv_bipush (v := 13) hx hb dL_does_223 (by decide) ?_
                            refine lv_icmp_ne (tgt := 239) hx hb dL_does_225 (by decide) (fun c_14 => ?_) (fun c_14 => ?_)
                            · refine lv_iload_n hx hb dL_does_239 rfl (lv_at hl 1 rfl) ?_
                              refine lv_bipush (v := 14) hx hb dL_does_240 (by decide) ?_
                              refine lv_icmp_ne (tgt := 254) hx hb dL_does_242 (by decide) (fun c_15 => ?_) (fun c_15 => ?_)
                              · refine lv_iload_n hx hb dL_does_254 rfl (lv_at hl 1 rfl) ?_
                                refine lv_bipush (v := 15) hx hb dL_does_255 (by decide) ?_
                                refine lv_icmp_ne (tgt := 269) hx hb dL_does_257 (by decide) (fun c_16 => ?_) (fun c_16 => ?_)
                                · refine lv_iload_n hx hb dL_does_269 rfl (lv_at hl 1 rfl) ?_
                                  refine lv_bipush (v := 16) hx hb dL_does_270 (by decide) ?_
                                  refine lv_icmp_ne (tgt := 284) hx hb dL_does_272 (by decide) (fun c_17 => ?_) (fun c_17 => ?_)
                                  · refine lv_iload_n hx hb dL_does_284 rfl (lv_at hl 1 rfl) ?_
                                    refine lv_bipush (v := 17) hx hb dL_does_285 (by decide) ?_
                                    refine lv_icmp_ne (tgt := 307) hx hb dL_does_287 (by decide) (fun c_18 => ?_) (fun c_18 => ?_)
                                    · refine lv_iload_n hx hb dL_does_307 rfl (lv_at hl 1 rfl) ?_
                                      refine lv_bipush (v := 18) hx hb dL_does_308 (by decide) ?_
                                      refine lv_icmp_ne (tgt := 321) hx hb dL_does_310 (by decide) (fun c_19 => ?_) (fun c_19 => ?_)
                                      · exact absurd (show (18 : Int32) = (18 : Int32) from by decide) c_19
                                      · refine lv_aload_n hx hb dL_does_313 rfl (lv_at hl 0 rfl) ?_
                                        refine lv_iload_n hx hb dL_does_314 rfl (lv_at hl 2 rfl) ?_
                                        refine zxR (px := fun k9 => (xX7_holder ni li mi mv nx al nc nl kb0 hb0 on il ba kn ho p1) = k9 ∧ k9 ≠ 0) (P0 := (xX7_holder ni li mi mv nx al nc nl kb0 hb0 on il ba kn ho p1) = 0) (r0 := (rX7_holder ni li mi mv nx al nc nl kb0 hb0 on il ba kn ho p1)) (vx_runV (As := [.int p1]) (rest := []) ⟨hx, hb, hml, hown, hts⟩ (c_X7_holder l hfl dC dI cI cJ mh la ka hh sg lg kg hg ca pl rw tw ga pa s.heap.size ni li mi mv nx al nc nl kb0 hb0 on il ba kn ho p1 ) (cwV 1 hts gL_does_X7_holder rfl rfl rfl (by decide +kernel) ⟨Nat.le_of_ble_eq_true rfl, Nat.le_of_ble_eq_true rfl⟩) (zpV hK hP hD hS hA hG [0, 1, 2, 3, 4, 5, 6, 7] (by decide) rfl 7 0 rfl rfl) rfl rfl hl.1 rfl (lv_room (Nat.le_of_ble_eq_true rfl)) dL_does_315 ⟨Nat.le_of_ble_eq_true rfl, Nat.le_of_ble_eq_true rfl⟩) hP hS hA (fun k9 ce q9 H locs hw_20 hP hS hce hcv hcl => ?_) (fun c_21 => ?_)
                                        · have hk9 : k9 = 1 := by have h := bxX7_holder ni li mi mv nx al nc nl kb0 hb0 on il ba kn ho p1; omega
                                          subst hk9
                                          have c_21 : ¬ (xX7_holder ni li mi mv nx al nc nl kb0 hb0 on il ba kn ho p1) = 0 := by rw [hw_20.1]; decide
                                          have c_22 : (xX7_holder ni li mi mv nx al nc nl kb0 hb0 on il ba kn ho p1) = 1 := hw_20.1
                                          refine vx_catch (name := zXn 1) hown [] ⟨0, 326, 327, 82⟩ [⟨0, 326, 332, 85⟩, ⟨0, 326, 337, 88⟩] htab (fun z hz => by cases hz) (by decide) (by decide) (hts _ kL_does_18_0) (va_Nw.use rfl (hG.1.2.2.2.1 1)) hce hcv hcl ?_
                                          refine lv_astore (lv' := [(6, .ref q9), (0, .ref mh), (1, .int (18 : Int32)), (2, .int p1), (3, .int p2), (4, .int p3), (5, .int p4)]) hx hb dL_does_327 hl (by decide) rfl (fun ls hl => ?_)
                                          refine lv_ldc (v := -3000000) hx hb hown (hts _ kL_does_18_1) dL_does_329 ?_
                                          refine W.widen (k := 1) (n := 6) (by decide) (by decide) ?_
                                          exact W.iret (v := (-3000000 : Int32)) hx hb hr (fun t ht hW => ⟨⟨(-3000000 : Int32), (), rfl, (by unfold rL_does_18; rw [if_neg c_21]), (by rw [ht]; exact hP.sub [0, 1, 2, 3, 4, 5, 6, 7] rfl), va_K.moved hW.alike hK, hD.sub [0, 1, 2, 3, 4, 5, 6, 7] (by decide) rfl⟩, hS.F ht⟩) hS.2.2 dL_does_331
                                        · skip
                                          refine lv_goto (tgt := 326) hx hb dL_does_318 (by decide) ?_
                                          refine W.widen (k := 1) (n := 6) (by decide) (by decide) ?_
                                          exact W.iret (v := (rX7_holder ni li mi mv nx al nc nl kb0 hb0 on il ba kn ho p1)) hx hb hr (fun t ht hW => ⟨⟨(rX7_holder ni li mi mv nx al nc nl kb0 hb0 on il ba kn ho p1), (), rfl, (by unfold rL_does_18; rw [if_pos c_21]), (by rw [ht]; exact hP.sub [0, 1, 2, 3, 4, 5, 6, 7] rfl), va_K.moved hW.alike hK, hD.sub [0, 1, 2, 3, 4, 5, 6, 7] (by decide) rfl⟩, hS.F ht⟩) hS.2.2 dL_does_326
                                    · exact absurd c_18 (by decide)
                                  · exact absurd c_17 (by decide)
                                · exact absurd c_16 (by decide)
                              · exact absurd c_15 (by decide)
                            · exact absurd c_14 (by decide)
                          · exact absurd c_13 (by decide)
                        · exact absurd c_12 (by decide)
                      · exact absurd c_11 (by decide)
                    · exact absurd c_10 (by decide)
                  · exact absurd c_9 (by decide)
                · exact absurd c_8 (by decide)
              · exact absurd c_7 (by decide)
            · exact absurd c_6 (by decide)
          · exact absurd c_5 (by decide)
        · exact absurd c_4 (by decide)
      · exact absurd c_3 (by decide)
    · exact absurd c_2 (by decide)
  · exact absurd c_1 (by decide)

/-! L_does -/
def rL_does_19 (ni : Int32) (li : Int32) (mi : Int32) (mv : Int32) (nx : Int32) (al : Int32) (nc : Int32) (nl : Int32) (on : Int32) (il : Int32) (ba : Int32) (p1 : Int32) (p2 : Int32) (p3 : Int32) (p4 : Int32) : Int32 := (if (xX7_count ni li mi mv nx al nc nl on il ba p1) = 0 then (rX7_count ni li mi mv nx al nc nl on il ba p1) else (-2000000 : Int32))
set_option maxRecDepth 20000 in
theorem kL_does_19_0 : Cond.classLink RL 82 "java/lang/IndexOutOfBoundsException" ∈ wsL_does := by decide +kernel
set_option maxRecDepth 20000 in
theorem kL_does_19_1 : Cond.classLink RL 85 "java/lang/IllegalArgumentException" ∈ wsL_does := by decide +kernel
set_option maxRecDepth 20000 in
theorem kL_does_19_2 : Cond.constant RL 87 (-2000000) ∈ wsL_does := by decide +kernel
set_option maxHeartbeats 1480000 in
set_option maxRecDepth 100000 in
theorem c_L_does_19 (l : Launch) (hfl : l.stackTraces = false) (dC : Nat → ClassId) (dI : Nat → Nat → Nat) (cI cJ : ClassId) (mh sg ca la pl rw tw ga pa lg : Nat) (sz : Nat) (ni : Int32) (li : Int32) (mi : Int32) (mv : Int32) (nx : Int32) (al : Int32) (nc : Int32) (nl : Int32) (on : Int32) (il : Int32) (ba : Int32) (p1 : Int32) (p2 : Int32) (p3 : Int32) (p4 : Int32) : Met l yL_does wsL_does ({ frames := 7, cells := 1, slots := 6, locals := 103 }) (va_Pc [.ref mh, .int (19 : Int32), .int p1, .int p2, .int p3, .int p4] (zI (dC, dI) [(cI, .int), (cJ, .long)] [(mh, .inr (7, [.ref ca, .ref la, .ref sg, .ref pl, .ref rw, .ref tw, .ref ga, .ref pa, .int ni, .int li, .int mi, .int mv, .int nx, .int al, .int nc, .int nl])), (sg, .inr (5, [.ref lg, .int on, .int il, .int ba]))] sz)) (va_Qi (fun (r : Int32) (u : Unit) => r = rL_does_19 ni li mi mv nx al nc nl on il ba p1 p2 p3 p4) (fun u => zO (dC, dI) [(cI, .int), (cJ, .long)] [(mh, .inr (7, [.ref ca, .ref la, .ref sg, .ref pl, .ref rw, .ref tw, .ref ga, .ref pa, .int ni, .int li, .int mi, .int mv, .int nx, .int al, .int nc, .int nl])), (sg, .inr (5, [.ref lg, .int on, .int il, .int ba]))] (va_A [(mh, .inr (7, [.ref ca, .ref la, .ref sg, .ref pl, .ref rw, .ref tw, .ref ga, .ref pa, .int ni, .int li, .int mi, .int mv, .int nx, .int al, .int nc, .int nl])), (sg, .inr (5, [.ref lg, .int on, .int il, .int ba]))] sz)) (va_A [(mh, .inr (7, [.ref ca, .ref la, .ref sg, .ref pl, .ref rw, .ref tw, .ref ga, .ref pa, .int ni, .int li, .int mi, .int mv, .int nx, .int al, .int nc, .int nl])), (sg, .inr (5, [.ref lg, .int on, .int il, .int ba]))] sz)) 1 6 (va_A [(mh, .inr (7, [.ref ca, .ref la, .ref sg, .ref pl, .ref rw, .ref tw, .ref ga, .ref pa, .int ni, .int li, .int mi, .int mv, .int nx, .int al, .int nc, .int nl])), (sg, .inr (5, [.ref lg, .int on, .int il, .int ba]))] sz) := by
  refine va_MetW (cc := cL_does) (maxL := 7) (ret := (some .int)) (by decide) rfl ?_
  intro p e s m args below meth c s₁ B hml hv
  obtain ⟨rfl, hsz, hP, hK, hD0, hG⟩ := hv
  have hx := B.exec
  have hb := B.bytes
  have hr := B.returns
  have hts := atoms_spec (ws := wsL_does) B.pre
  have hown : s.vm.findClass RL = some m.cls := findClass_of_methodNamed B.named
  have hlocks := B.notSynchronized
  have htab := vx_table (x := yL_does) (y := yL_does) B (hts _ List.mem_cons_self)
  subst hsz
  have hD := hD0.self (sz := s.heap.size)
  generalize hAe : va_A [(mh, .inr (7, [.ref ca, .ref la, .ref sg, .ref pl, .ref rw, .ref tw, .ref ga, .ref pa, .int ni, .int li, .int mi, .int mv, .int nx, .int al, .int nc, .int nl])), (sg, .inr (5, [.ref lg, .int on, .int il, .int ba]))] s.heap.size = A at hD hG ⊢
  have hA : ∀ q : Nat, s.heap.size ≤ q → A q := fun q h => by rw [← hAe]; exact Or.inr h
  have hS : va_S A s.heap s.heap [] := va_S.rf
  have hP : va_P (dC, dI) vwCl [(mh, .inr (7, [.ref ca, .ref la, .ref sg, .ref pl, .ref rw, .ref tw, .ref ga, .ref pa, .int ni, .int li, .int mi, .int mv, .int nx, .int al, .int nc, .int nl])), (sg, .inr (5, [.ref lg, .int on, .int il, .int ba]))] s.heap := hP
  have hl := lv_entry ([.ref mh, .int (19 : Int32), .int p1, .int p2, .int p3, .int p4]) (n := 7) (Nat.le_of_ble_eq_true rfl)
  rw [lg_entry_eq]
  generalize (lg_sl ([.ref mh, .int (19 : Int32), .int p1, .int p2, .int p3, .int p4]) ++ List.replicate (7 - (lg_sl ([.ref mh, .int (19 : Int32), .int p1, .int p2, .int p3, .int p4])).length) Slot.unset).toArray = ls at hl ⊢
  have hl : lv_has ls 7 [(0, .ref mh), (1, .int (19 : Int32)), (2, .int p1), (3, .int p2), (4, .int p3), (5, .int p4)] := hl
  refine lv_iload_n hx hb dL_does_0 rfl (lv_at hl 1 rfl) ?_
  refine lv_if_ne (tgt := 32) hx hb dL_does_1 (by decide) (fun c_1 => ?_) (fun c_1 => ?_)
  · refine lv_iload_n hx hb dL_does_32 rfl (lv_at hl 1 rfl) ?_
    refine lv_iconst (v := 1) hx hb dL_does_33 (by decide) ?_
    refine lv_icmp_ne (tgt := 46) hx hb dL_does_34 (by decide) (fun c_2 => ?_) (fun c_2 => ?_)
    · refine lv_iload_n hx hb dL_does_46 rfl (lv_at hl 1 rfl) ?_
      refine lv_iconst (v := 2) hx hb dL_does_47 (by decide) ?_
      refine lv_icmp_ne (tgt := 64) hx hb dL_does_48 (by decide) (fun c_3 => ?_) (fun c_3 => ?_)
      · refine lv_iload_n hx hb dL_does_64 rfl (lv_at hl 1 rfl) ?_
        refine lv_iconst (v := 3) hx hb dL_does_65 (by decide) ?_
        refine lv_icmp_ne (tgt := 76) hx hb dL_does_66 (by decide) (fun c_4 => ?_) (fun c_4 => ?_)
        · refine lv_iload_n hx hb dL_does_76 rfl (lv_at hl 1 rfl) ?_
          refine lv_iconst (v := 4) hx hb dL_does_77 (by decide) ?_
          refine lv_icmp_ne (tgt := 97) hx hb dL_does_78 (by decide) (fun c_5 => ?_) (fun c_5 => ?_)
          · refine lv_iload_n hx hb dL_does_97 rfl (lv_at hl 1 rfl) ?_
            refine lv_iconst (v := 5) hx hb dL_does_98 (by decide) ?_
            refine lv_icmp_ne (tgt := 118) hx hb dL_does_99 (by decide) (fun c_6 => ?_) (fun c_6 => ?_)
            · refine lv_iload_n hx hb dL_does_118 rfl (lv_at hl 1 rfl) ?_
              refine lv_bipush (v := 6) hx hb dL_does_119 (by decide) ?_
              refine lv_icmp_ne (tgt := 131) hx hb dL_does_121 (by decide) (fun c_7 => ?_) (fun c_7 => ?_)
              · refine lv_iload_n hx hb dL_does_131 rfl (lv_at hl 1 rfl) ?_
                refine lv_bipush (v := 7) hx hb dL_does_132 (by decide) ?_
                refine lv_icmp_ne (tgt := 148) hx hb dL_does_134 (by decide) (fun c_8 => ?_) (fun c_8 => ?_)
                · refine lv_iload_n hx hb dL_does_148 rfl (lv_at hl 1 rfl) ?_
                  refine lv_bipush (v := 8) hx hb dL_does_149 (by decide) ?_
                  refine lv_icmp_ne (tgt := 163) hx hb dL_does_151 (by decide) (fun c_9 => ?_) (fun c_9 => ?_)
                  · refine lv_iload_n hx hb dL_does_163 rfl (lv_at hl 1 rfl) ?_
                    refine lv_bipush (v := 9) hx hb dL_does_164 (by decide) ?_
                    refine lv_icmp_ne (tgt := 177) hx hb dL_does_166 (by decide) (fun c_10 => ?_) (fun c_10 => ?_)
                    · refine lv_iload_n hx hb dL_does_177 rfl (lv_at hl 1 rfl) ?_
                      refine lv_bipush (v := 10) hx hb dL_does_178 (by decide) ?_
                      refine lv_icmp_ne (tgt := 191) hx hb dL_does_180 (by decide) (fun c_11 => ?_) (fun c_11 => ?_)
                      · refine lv_iload_n hx hb dL_does_191 rfl (lv_at hl 1 rfl) ?_
                        refine lv_bipush (v := 11) hx hb dL_does_192 (by decide) ?_
                        refine lv_icmp_ne (tgt := 205) hx hb dL_does_194 (by decide) (fun c_12 => ?_) (fun c_12 => ?_)
                        · refine lv_iload_n hx hb dL_does_205 rfl (lv_at hl 1 rfl) ?_
                          refine lv_bipush (v := 12) hx hb dL_does_206 (by decide) ?_
                          refine lv_icmp_ne (tgt := 222) hx hb dL_does_208 (by decide) (fun c_13 => ?_) (fun c_13 => ?_)
                          · refine lv_iload_n hx hb dL_does_222 rfl (lv_at hl 1 rfl) ?_
                            refine lv_bipush (v := 13) hx hb dL_does_223 (by decide) ?_
                            refine lv_icmp_ne (tgt := 239) hx hb dL_does_225 (by decide) (fun c_14 => ?_) (fun c_14 => ?_)
                            · refine lv_iload_n hx hb dL_does_239 rfl (lv_at hl 1 rfl) ?_
                              refine lv_bipush (v := 14) hx hb dL_does_240 (by decide) ?_
                              refine lv_icmp_ne (tgt := 254) hx hb dL_does_242 (by decide) (fun c_15 => ?_) (fun c_15 => ?_)
                              · refine lv_iload_n hx hb dL_does_254 rfl (lv_at hl 1 rfl) ?_
                                refine lv_bipush (v := 15) hx hb dL_does_255 (by decide) ?_
                                refine lv_icmp_ne (tgt := 269) hx hb dL_does_257 (by decide) (fun c_16 => ?_) (fun c_16 => ?_)
                                · refine lv_iload_n hx hb dL_does_269 rfl (lv_at hl 1 rfl) ?_
                                  refine lv_bipush (v := 16) hx hb dL_does_270 (by decide) ?_
                                  refine lv_icmp_ne (tgt := 284) hx hb dL_does_272 (by decide) (fun c_17 => ?_) (fun c_17 => ?_)
                                  · refine lv_iload_n hx hb dL_does_284 rfl (lv_at hl 1 rfl) ?_
                                    refine lv_bipush (v := 17) hx hb dL_does_285 (by decide) ?_
                                    refine lv_icmp_ne (tgt := 307) hx hb dL_does_287 (by decide) (fun c_18 => ?_) (fun c_18 => ?_)
                                    · refine lv_iload_n hx hb dL_does_307 rfl (lv_at hl 1 rfl) ?_
                                      refine lv_bipush (v := 18) hx hb dL_does_308 (by decide) ?_
                                      refine lv_icmp_ne (tgt := 321) hx hb dL_does_310 (by decide) (fun c_19 => ?_) (fun c_19 => ?_)
                                      · refine lv_aload_n hx hb dL_does_321 rfl (lv_at hl 0 rfl) ?_
                                        refine lv_iload_n hx hb dL_does_322 rfl (lv_at hl 2 rfl) ?_
                                        refine zxR (px := fun k9 => (xX7_count ni li mi mv nx al nc nl on il ba p1) = k9 ∧ k9 ≠ 0) (P0 := (xX7_count ni li mi mv nx al nc nl on il ba p1) = 0) (r0 := (rX7_count ni li mi mv nx al nc nl on il ba p1)) (vx_runV (As := [.int p1]) (rest := []) ⟨hx, hb, hml, hown, hts⟩ (c_X7_count l hfl dC dI cI cJ mh sg ca la pl rw tw ga pa lg s.heap.size ni li mi mv nx al nc nl on il ba p1 ) (cwV 1 hts gL_does_X7_count rfl rfl rfl (by decide +kernel) ⟨Nat.le_of_ble_eq_true rfl, Nat.le_of_ble_eq_true rfl⟩) (zpV hK hP hD hS hA hG [0, 1] (by decide) rfl 7 0 rfl rfl) rfl rfl hl.1 rfl (lv_room (Nat.le_of_ble_eq_true rfl)) dL_does_323 ⟨Nat.le_of_ble_eq_true rfl, Nat.le_of_ble_eq_true rfl⟩) hP hS hA (fun k9 ce q9 H locs hw_20 hP hS hce hcv hcl => ?_) (fun c_21 => ?_)
                                        · have hk9 : k9 = 2 := by have h := bxX7_count ni li mi mv nx al nc nl on il ba p1; omega
                                          subst hk9
                                          have c_21 : ¬ (xX7_count ni li mi mv nx al nc nl on il ba p1) = 0 := by rw [hw_20.1]; decide
                                          have c_22 : (xX7_count ni li mi mv nx al nc nl on il ba p1) = 2 := hw_20.1
                                          refine vx_catch (name := zXn 2) hown [⟨0, 326, 327, 82⟩] ⟨0, 326, 332, 85⟩ [⟨0, 326, 337, 88⟩] htab (fun z hz => by rcases (List.mem_cons.mp hz) with rfl | hz; exact Or.inr ⟨by decide, _, (hts _ kL_does_19_0), hG.1.2.2.1 _ (List.mem_of_getElem? (i := 0) rfl)⟩; cases hz) (by decide) (by decide) (hts _ kL_does_19_1) (va_Nw.use rfl (hG.1.2.2.2.1 2)) hce hcv hcl ?_
                                          refine lv_astore (lv' := [(6, .ref q9), (0, .ref mh), (1, .int (19 : Int32)), (2, .int p1), (3, .int p2), (4, .int p3), (5, .int p4)]) hx hb dL_does_332 hl (by decide) rfl (fun ls hl => ?_)
                                          refine lv_ldc (v := -2000000) hx hb hown (hts _ kL_does_19_2) dL_does_334 ?_
                                          refine W.widen (k := 1) (n := 6) (by decide) (by decide) ?_
                                          exact W.iret (v := (-2000000 : Int32)) hx hb hr (fun t ht hW => ⟨⟨(-2000000 : Int32), (), rfl, (by unfold rL_does_19; rw [if_neg c_21]), (by rw [ht]; exact hP.sub [0, 1] rfl), va_K.moved hW.alike hK, hD.sub [0, 1] (by decide) rfl⟩, hS.F ht⟩) hS.2.2 dL_does_336
                                        · skip
                                          refine W.widen (k := 1) (n := 6) (by decide) (by decide) ?_
                                          exact W.iret (v := (rX7_count ni li mi mv nx al nc nl on il ba p1)) hx hb hr (fun t ht hW => ⟨⟨(rX7_count ni li mi mv nx al nc nl on il ba p1), (), rfl, (by unfold rL_does_19; rw [if_pos c_21]), (by rw [ht]; exact hP.sub [0, 1] rfl), va_K.moved hW.alike hK, hD.sub [0, 1] (by decide) rfl⟩, hS.F ht⟩) hS.2.2 dL_does_326
                                      · exact absurd c_19 (by decide)
                                    · exact absurd c_18 (by decide)
                                  · exact absurd c_17 (by decide)
                                · exact absurd c_16 (by decide)
                              · exact absurd c_15 (by decide)
                            · exact absurd c_14 (by decide)
                          · exact absurd c_13 (by decide)
                        · exact absurd c_12 (by decide)
                      · exact absurd c_11 (by decide)
                    · exact absurd c_10 (by decide)
                  · exact absurd c_9 (by decide)
                · exact absurd c_8 (by decide)
              · exact absurd c_7 (by decide)
            · exact absurd c_6 (by decide)
          · exact absurd c_5 (by decide)
        · exact absurd c_4 (by decide)
      · exact absurd c_3 (by decide)
    · exact absurd c_2 (by decide)
  · exact absurd c_1 (by decide)
