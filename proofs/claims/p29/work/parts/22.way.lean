/-! X3_canBeClosed -/
def lX3_canBeClosed_20_r (ki : Nat → Int32) (fi : Nat → Int32) (se : Nat → Int32) (th : Nat → Int32) (size : Int32) (on : Int32) (il : Int32) (ba : Int32) (kT : Nat → Int32) (hT : Nat → Int32) (kn : Nat → Int32) (ho : Nat → Int32) (p1 : Int32) : Nat → (Nat → Int32) → (Nat → Int32) → (Int32) → (Int32)
  | 0, _, _, _ => 0
  | n20 + 1, kT1, hT1, i => (if size ≤ i then (1 : Int32) else (if (rX3_canBeDone ki fi se th size on il ba kT1 hT1 i) = 0 then (0 : Int32) else (lX3_canBeClosed_20_r ki fi se th size on il ba kT hT kn ho p1 n20 (oX3_canBeDone_kT ki fi se th size on il ba kT1 hT1 i) (oX3_canBeDone_hT ki fi se th size on il ba kT1 hT1 i) (i + 1))))
def lX3_canBeClosed_20_kT (ki : Nat → Int32) (fi : Nat → Int32) (se : Nat → Int32) (th : Nat → Int32) (size : Int32) (on : Int32) (il : Int32) (ba : Int32) (kT : Nat → Int32) (hT : Nat → Int32) (kn : Nat → Int32) (ho : Nat → Int32) (p1 : Int32) : Nat → (Nat → Int32) → (Nat → Int32) → (Int32) → (Nat → Int32)
  | 0, _, _, _ => fun _ => 0
  | n20 + 1, kT1, hT1, i => (if size ≤ i then kT1 else (if (rX3_canBeDone ki fi se th size on il ba kT1 hT1 i) = 0 then (oX3_canBeDone_kT ki fi se th size on il ba kT1 hT1 i) else (lX3_canBeClosed_20_kT ki fi se th size on il ba kT hT kn ho p1 n20 (oX3_canBeDone_kT ki fi se th size on il ba kT1 hT1 i) (oX3_canBeDone_hT ki fi se th size on il ba kT1 hT1 i) (i + 1))))
def lX3_canBeClosed_20_hT (ki : Nat → Int32) (fi : Nat → Int32) (se : Nat → Int32) (th : Nat → Int32) (size : Int32) (on : Int32) (il : Int32) (ba : Int32) (kT : Nat → Int32) (hT : Nat → Int32) (kn : Nat → Int32) (ho : Nat → Int32) (p1 : Int32) : Nat → (Nat → Int32) → (Nat → Int32) → (Int32) → (Nat → Int32)
  | 0, _, _, _ => fun _ => 0
  | n20 + 1, kT1, hT1, i => (if size ≤ i then hT1 else (if (rX3_canBeDone ki fi se th size on il ba kT1 hT1 i) = 0 then (oX3_canBeDone_hT ki fi se th size on il ba kT1 hT1 i) else (lX3_canBeClosed_20_hT ki fi se th size on il ba kT hT kn ho p1 n20 (oX3_canBeDone_kT ki fi se th size on il ba kT1 hT1 i) (oX3_canBeDone_hT ki fi se th size on il ba kT1 hT1 i) (i + 1))))
def rX3_canBeClosed (ki : Nat → Int32) (fi : Nat → Int32) (se : Nat → Int32) (th : Nat → Int32) (size : Int32) (on : Int32) (il : Int32) (ba : Int32) (kT : Nat → Int32) (hT : Nat → Int32) (kn : Nat → Int32) (ho : Nat → Int32) (p1 : Int32) : Int32 := (lX3_canBeClosed_20_r ki fi se th size on il ba kT hT kn ho p1 14 (oX2_copyFrom_fk kT hT kn ho) (oX2_copyFrom_fh kT hT kn ho) (if p1 < (0 : Int32) then (0 : Int32) else p1))
def oX3_canBeClosed_kT (ki : Nat → Int32) (fi : Nat → Int32) (se : Nat → Int32) (th : Nat → Int32) (size : Int32) (on : Int32) (il : Int32) (ba : Int32) (kT : Nat → Int32) (hT : Nat → Int32) (kn : Nat → Int32) (ho : Nat → Int32) (p1 : Int32) : Nat → Int32 := (lX3_canBeClosed_20_kT ki fi se th size on il ba kT hT kn ho p1 14 (oX2_copyFrom_fk kT hT kn ho) (oX2_copyFrom_fh kT hT kn ho) (if p1 < (0 : Int32) then (0 : Int32) else p1))
def oX3_canBeClosed_hT (ki : Nat → Int32) (fi : Nat → Int32) (se : Nat → Int32) (th : Nat → Int32) (size : Int32) (on : Int32) (il : Int32) (ba : Int32) (kT : Nat → Int32) (hT : Nat → Int32) (kn : Nat → Int32) (ho : Nat → Int32) (p1 : Int32) : Nat → Int32 := (lX3_canBeClosed_20_hT ki fi se th size on il ba kT hT kn ho p1 14 (oX2_copyFrom_fk kT hT kn ho) (oX2_copyFrom_fh kT hT kn ho) (if p1 < (0 : Int32) then (0 : Int32) else p1))
set_option maxRecDepth 20000 in
theorem iX3_canBeClosed_X3 : ∀ w ∈ u_ws RX3 TX3 3, w ∈ wsX3_canBeClosed := by decide +kernel
set_option maxRecDepth 20000 in
theorem kX3_canBeClosed_1 : Cond.fieldLink RX3 12 "MaskHall$Plot" "byThen" "LMaskHall$Lore;" ∈ wsX3_canBeClosed := by decide +kernel
set_option maxRecDepth 20000 in
theorem kX3_canBeClosed_2 : Cond.fieldLink RX3 22 "MaskHall$Plot" "stage" "LMaskHall$Stage;" ∈ wsX3_canBeClosed := by decide +kernel
set_option maxRecDepth 20000 in
theorem iX3_canBeClosed_X5 : ∀ w ∈ u_ws RX5 TX5 4, w ∈ wsX3_canBeClosed := by decide +kernel
set_option maxRecDepth 20000 in
theorem kX3_canBeClosed_4 : Cond.fieldLink RX3 26 "MaskHall$Stage" "lore" "LMaskHall$Lore;" ∈ wsX3_canBeClosed := by decide +kernel
set_option maxRecDepth 20000 in
theorem kX3_canBeClosed_5 : Cond.methodLink RX3 35 Lib.Math.max.name ∈ wsX3_canBeClosed := by decide +kernel
set_option maxRecDepth 20000 in
theorem kX3_canBeClosed_6 : Cond.static Lib.Math.max.name ∈ wsX3_canBeClosed := by decide +kernel
set_option maxRecDepth 20000 in
theorem kX3_canBeClosed_7 : Cond.initialized "java/lang/Math" ∈ wsX3_canBeClosed := by decide +kernel
set_option maxRecDepth 20000 in
theorem kX3_canBeClosed_8 : Cond.code Lib.Math.max.name Lib.Math.max.code 2 (some .int) ∈ wsX3_canBeClosed := by decide +kernel
set_option maxRecDepth 20000 in
theorem kX3_canBeClosed_9 : Cond.fieldLink RX3 18 "MaskHall$Plot" "canvas" "LMaskHall$Canvas;" ∈ wsX3_canBeClosed := by decide +kernel
set_option maxRecDepth 20000 in
theorem iX3_canBeClosed_X0 : ∀ w ∈ u_ws RX0 TX0 5, w ∈ wsX3_canBeClosed := by decide +kernel
set_option maxRecDepth 20000 in
theorem kX3_canBeClosed_11 : Cond.fieldLink RX3 41 "MaskHall$Canvas" "size" "I" ∈ wsX3_canBeClosed := by decide +kernel
set_option maxHeartbeats 680000 in
set_option maxRecDepth 100000 in
theorem c_X3_canBeClosed (l : Launch) (dC : Nat → ClassId) (dI : Nat → Nat → Nat) (cI cJ : ClassId) (pl ca ck cf cs ct sg lt kt ht lg kg hg : Nat) (sz : Nat) (ki : Nat → Int32) (fi : Nat → Int32) (se : Nat → Int32) (th : Nat → Int32) (size : Int32) (on : Int32) (il : Int32) (ba : Int32) (kT : Nat → Int32) (hT : Nat → Int32) (kn : Nat → Int32) (ho : Nat → Int32) (p1 : Int32) (hsz0 : 0 ≤ size.toInt) (hsz : size.toInt ≤ 12) (hTH : ∀ j : Nat, j < 12 → vp_in (th j) 4) : Met l yX3_canBeClosed wsX3_canBeClosed ({ frames := 5, cells := 0, slots := 0, locals := 115 }) (va_Pc [.ref pl, .int p1] (zI (dC, dI) [(cI, .int), (cJ, .long)] [(pl, .inr (3, [.ref ca, .ref sg, .ref lt])), (ca, .inr (0, [.ref ck, .ref cf, .ref cs, .ref ct, .int size])), (ck, .inl (cI, 12, .inl ki)), (cf, .inl (cI, 12, .inl fi)), (cs, .inl (cI, 12, .inl se)), (ct, .inl (cI, 12, .inl th)), (sg, .inr (5, [.ref lg, .int on, .int il, .int ba])), (lt, .inr (2, [.ref kt, .ref ht])), (kt, .inl (cI, 4, .inl kT)), (ht, .inl (cI, 4, .inl hT)), (lg, .inr (2, [.ref kg, .ref hg])), (kg, .inl (cI, 4, .inl kn)), (hg, .inl (cI, 4, .inl ho))] sz)) (va_Qi (fun (r : Int32) (u : (Nat → Int32) × (Nat → Int32)) => r = rX3_canBeClosed ki fi se th size on il ba kT hT kn ho p1 ∧ u.1 = oX3_canBeClosed_kT ki fi se th size on il ba kT hT kn ho p1 ∧ u.2 = oX3_canBeClosed_hT ki fi se th size on il ba kT hT kn ho p1) (fun u => zO (dC, dI) [(cI, .int), (cJ, .long)] [(pl, .inr (3, [.ref ca, .ref sg, .ref lt])), (ca, .inr (0, [.ref ck, .ref cf, .ref cs, .ref ct, .int size])), (ck, .inl (cI, 12, .inl ki)), (cf, .inl (cI, 12, .inl fi)), (cs, .inl (cI, 12, .inl se)), (ct, .inl (cI, 12, .inl th)), (sg, .inr (5, [.ref lg, .int on, .int il, .int ba])), (lt, .inr (2, [.ref kt, .ref ht])), (kt, .inl (cI, 4, .inl u.1)), (ht, .inl (cI, 4, .inl u.2)), (lg, .inr (2, [.ref kg, .ref hg])), (kg, .inl (cI, 4, .inl kn)), (hg, .inl (cI, 4, .inl ho))] (va_A [(pl, .inr (3, [.ref ca, .ref sg, .ref lt])), (ca, .inr (0, [.ref ck, .ref cf, .ref cs, .ref ct, .int size])), (ck, .inl (cI, 12, .inl ki)), (cf, .inl (cI, 12, .inl fi)), (cs, .inl (cI, 12, .inl se)), (ct, .inl (cI, 12, .inl th)), (sg, .inr (5, [.ref lg, .int on, .int il, .int ba])), (lt, .inr (2, [.ref kt, .ref ht])), (kt, .inl (cI, 4, .inl kT)), (ht, .inl (cI, 4, .inl hT)), (lg, .inr (2, [.ref kg, .ref hg])), (kg, .inl (cI, 4, .inl kn)), (hg, .inl (cI, 4, .inl ho))] sz)) (va_A [(pl, .inr (3, [.ref ca, .ref sg, .ref lt])), (ca, .inr (0, [.ref ck, .ref cf, .ref cs, .ref ct, .int size])), (ck, .inl (cI, 12, .inl ki)), (cf, .inl (cI, 12, .inl fi)), (cs, .inl (cI, 12, .inl se)), (ct, .inl (cI, 12, .inl th)), (sg, .inr (5, [.ref lg, .int on, .int il, .int ba])), (lt, .inr (2, [.ref kt, .ref ht])), (kt, .inl (cI, 4, .inl kT)), (ht, .inl (cI, 4, .inl hT)), (lg, .inr (2, [.ref kg, .ref hg])), (kg, .inl (cI, 4, .inl kn)), (hg, .inl (cI, 4, .inl ho))] sz)) 0 0 (va_A [(pl, .inr (3, [.ref ca, .ref sg, .ref lt])), (ca, .inr (0, [.ref ck, .ref cf, .ref cs, .ref ct, .int size])), (ck, .inl (cI, 12, .inl ki)), (cf, .inl (cI, 12, .inl fi)), (cs, .inl (cI, 12, .inl se)), (ct, .inl (cI, 12, .inl th)), (sg, .inr (5, [.ref lg, .int on, .int il, .int ba])), (lt, .inr (2, [.ref kt, .ref ht])), (kt, .inl (cI, 4, .inl kT)), (ht, .inl (cI, 4, .inl hT)), (lg, .inr (2, [.ref kg, .ref hg])), (kg, .inl (cI, 4, .inl kn)), (hg, .inl (cI, 4, .inl ho))] sz) := by
  refine Met.ofW (cc := cX3_canBeClosed) (maxL := 3) (ret := (some .boolean)) (by decide) rfl ?_
  intro p e s m args below meth c s₁ B hml hv
  obtain ⟨rfl, hsz, hP, hK, hD0, hG⟩ := hv
  have hx := B.exec
  have hb := B.bytes
  have hr := B.returns
  have hts := atoms_spec (ws := wsX3_canBeClosed) B.pre
  have hown : s.vm.findClass RX3 = some m.cls := findClass_of_methodNamed B.named
  have hlocks := B.notSynchronized
  subst hsz
  have hD := hD0.self (sz := s.heap.size)
  generalize hAe : va_A [(pl, .inr (3, [.ref ca, .ref sg, .ref lt])), (ca, .inr (0, [.ref ck, .ref cf, .ref cs, .ref ct, .int size])), (ck, .inl (cI, 12, .inl ki)), (cf, .inl (cI, 12, .inl fi)), (cs, .inl (cI, 12, .inl se)), (ct, .inl (cI, 12, .inl th)), (sg, .inr (5, [.ref lg, .int on, .int il, .int ba])), (lt, .inr (2, [.ref kt, .ref ht])), (kt, .inl (cI, 4, .inl kT)), (ht, .inl (cI, 4, .inl hT)), (lg, .inr (2, [.ref kg, .ref hg])), (kg, .inl (cI, 4, .inl kn)), (hg, .inl (cI, 4, .inl ho))] s.heap.size = A at hD hG ⊢
  have hA : ∀ q : Nat, s.heap.size ≤ q → A q := fun q h => by rw [← hAe]; exact Or.inr h
  have hS : va_S A s.heap s.heap [] := va_S.rf
  have hP : va_P (dC, dI) vwCl [(pl, .inr (3, [.ref ca, .ref sg, .ref lt])), (ca, .inr (0, [.ref ck, .ref cf, .ref cs, .ref ct, .int size])), (ck, .inl (cI, 12, .inl ki)), (cf, .inl (cI, 12, .inl fi)), (cs, .inl (cI, 12, .inl se)), (ct, .inl (cI, 12, .inl th)), (sg, .inr (5, [.ref lg, .int on, .int il, .int ba])), (lt, .inr (2, [.ref kt, .ref ht])), (kt, .inl (cI, 4, .inl kT)), (ht, .inl (cI, 4, .inl hT)), (lg, .inr (2, [.ref kg, .ref hg])), (kg, .inl (cI, 4, .inl kn)), (hg, .inl (cI, 4, .inl ho))] s.heap := hP
  have hl := lv_entry ([.ref pl, .int p1]) (n := 3) (Nat.le_of_ble_eq_true rfl)
  rw [lg_entry_eq]
  generalize (lg_sl ([.ref pl, .int p1]) ++ List.replicate (3 - (lg_sl ([.ref pl, .int p1])).length) Slot.unset).toArray = ls at hl ⊢
  have hl : lv_has ls 3 [(0, .ref pl), (1, .int p1)] := hl
  refine lv_aload_n hx hb dX3_canBeClosed_0 rfl (lv_at hl 0 rfl) ?_
  refine va_get (D := (dC, dI)) (ci := 3) (v := .ref lt) (C := RX3) (T := TX3) (N := 3) hx hb hts iX3_canBeClosed_X3 hown hK hP 0 rfl rfl 2 (by decide) (hts _ kX3_canBeClosed_1) (fun _ h9 => h9) rfl dX3_canBeClosed_1 ?_
  refine lv_aload_n hx hb dX3_canBeClosed_4 rfl (lv_at hl 0 rfl) ?_
  refine va_get (D := (dC, dI)) (ci := 3) (v := .ref sg) (C := RX3) (T := TX3) (N := 3) hx hb hts iX3_canBeClosed_X3 hown hK hP 0 rfl rfl 1 (by decide) (hts _ kX3_canBeClosed_2) (fun _ h9 => h9) rfl dX3_canBeClosed_5 ?_
  refine va_get (D := (dC, dI)) (ci := 5) (v := .ref lg) (C := RX5) (T := TX5) (N := 4) hx hb hts iX3_canBeClosed_X5 hown hK hP 6 rfl rfl 0 (by decide) (hts _ kX3_canBeClosed_4) (fun _ h9 => h9) rfl dX3_canBeClosed_8 ?_
  refine zkV (wr := [(pl, .inr (3, [.ref ca, .ref sg, .ref lt])), (ca, .inr (0, [.ref ck, .ref cf, .ref cs, .ref ct, .int size])), (ck, .inl (cI, 12, .inl ki)), (cf, .inl (cI, 12, .inl fi)), (cs, .inl (cI, 12, .inl se)), (ct, .inl (cI, 12, .inl th)), (sg, .inr (5, [.ref lg, .int on, .int il, .int ba]))]) (u0 := ((oX2_copyFrom_fk kT hT kn ho), (oX2_copyFrom_fh kT hT kn ho))) (va_runV (As := [.ref lg]) (rest := []) ⟨hx, hb, hml, hown, hts⟩ (c_X2_copyFrom l dC dI cI cJ lt kt ht lg kg hg s.heap.size kT hT kn ho ) (cwV 1 hts gX3_canBeClosed_X2_copyFrom rfl rfl rfl (by decide +kernel) ⟨Nat.le_of_ble_eq_true rfl, Nat.le_of_ble_eq_true rfl⟩) (zpV hK hP hD hS hA hG [7, 8, 9, 10, 11, 12] (by decide) rfl 2 7 rfl rfl) rfl rfl hl.1 rfl (lv_room (Nat.le_of_ble_eq_true rfl)) dX3_canBeClosed_11 ⟨Nat.le_of_ble_eq_true rfl, Nat.le_of_ble_eq_true rfl⟩) (fun u h => zT2 h.1 h.2) hP hD hS hA [7, 8, 9, 10, 11, 12] [0, 1, 2, 3, 4, 5, 6] rfl rfl (by decide) (by decide) (fun H locs hP hD hS => ?_)
  try dsimp only [List.cons_append, List.nil_append] at hP hD
  have hP : va_P (dC, dI) vwCl [(pl, .inr (3, [.ref ca, .ref sg, .ref lt])), (ca, .inr (0, [.ref ck, .ref cf, .ref cs, .ref ct, .int size])), (ck, .inl (cI, 12, .inl ki)), (cf, .inl (cI, 12, .inl fi)), (cs, .inl (cI, 12, .inl se)), (ct, .inl (cI, 12, .inl th)), (sg, .inr (5, [.ref lg, .int on, .int il, .int ba])), (lt, .inr (2, [.ref kt, .ref ht])), (kt, .inl (cI, 4, .inl (oX2_copyFrom_fk kT hT kn ho))), (ht, .inl (cI, 4, .inl (oX2_copyFrom_fh kT hT kn ho))), (lg, .inr (2, [.ref kg, .ref hg])), (kg, .inl (cI, 4, .inl kn)), (hg, .inl (cI, 4, .inl ho))] H := hP
  have hD : va_D A [(pl, .inr (3, [.ref ca, .ref sg, .ref lt])), (ca, .inr (0, [.ref ck, .ref cf, .ref cs, .ref ct, .int size])), (ck, .inl (cI, 12, .inl ki)), (cf, .inl (cI, 12, .inl fi)), (cs, .inl (cI, 12, .inl se)), (ct, .inl (cI, 12, .inl th)), (sg, .inr (5, [.ref lg, .int on, .int il, .int ba])), (lt, .inr (2, [.ref kt, .ref ht])), (kt, .inl (cI, 4, .inl (oX2_copyFrom_fk kT hT kn ho))), (ht, .inl (cI, 4, .inl (oX2_copyFrom_fh kT hT kn ho))), (lg, .inr (2, [.ref kg, .ref hg])), (kg, .inl (cI, 4, .inl kn)), (hg, .inl (cI, 4, .inl ho))] := hD
  refine lv_iload_n hx hb dX3_canBeClosed_14 rfl (lv_at hl 1 rfl) ?_
  refine lv_iconst (v := 0) hx hb dX3_canBeClosed_15 (by decide) ?_
  refine va_mmax hx hb (hml.trans hl.1.symm) hown (hts _ kX3_canBeClosed_5) (hts _ kX3_canBeClosed_6) (hts _ kX3_canBeClosed_7) (hts _ kX3_canBeClosed_8) (Nat.le_of_ble_eq_true rfl) (Nat.le_of_ble_eq_true rfl) (Nat.le_of_ble_eq_true rfl) (Nat.le_of_ble_eq_true rfl) dX3_canBeClosed_16 ?_
  refine lv_istore_n (lv' := [(2, .int (if p1 < (0 : Int32) then (0 : Int32) else p1)), (0, .ref pl), (1, .int p1)]) hx hb dX3_canBeClosed_19 rfl hl (by decide) rfl (fun ls hl => ?_)
  refine zNm (fun R9 Q9 hR9 hQ9 => ?_)
  have L20 : ∀ (n20 : Nat) (kT1 : Nat → Int32) (hT1 : Nat → Int32) (i : Int32), 0 ≤ i.toInt → (size).toInt - i.toInt < n20 ∧ 0 < n20 → lX3_canBeClosed_20_r ki fi se th size on il ba kT hT kn ho p1 n20 kT1 hT1 i = rX3_canBeClosed ki fi se th size on il ba kT hT kn ho p1 → lX3_canBeClosed_20_kT ki fi se th size on il ba kT hT kn ho p1 n20 kT1 hT1 i = oX3_canBeClosed_kT ki fi se th size on il ba kT hT kn ho p1 → lX3_canBeClosed_20_hT ki fi se th size on il ba kT hT kn ho p1 n20 kT1 hT1 i = oX3_canBeClosed_hT ki fi se th size on il ba kT hT kn ho p1 → ∀ (H : Heap) (locs : List Loc) (ls : Array Slot), va_P (dC, dI) vwCl [(pl, .inr (3, [.ref ca, .ref sg, .ref lt])), (ca, .inr (0, [.ref ck, .ref cf, .ref cs, .ref ct, .int size])), (ck, .inl (cI, 12, .inl ki)), (cf, .inl (cI, 12, .inl fi)), (cs, .inl (cI, 12, .inl se)), (ct, .inl (cI, 12, .inl th)), (sg, .inr (5, [.ref lg, .int on, .int il, .int ba])), (lt, .inr (2, [.ref kt, .ref ht])), (kt, .inl (cI, 4, .inl kT1)), (ht, .inl (cI, 4, .inl hT1)), (lg, .inr (2, [.ref kg, .ref hg])), (kg, .inl (cI, 4, .inl kn)), (hg, .inl (cI, 4, .inl ho))] H → va_D A [(pl, .inr (3, [.ref ca, .ref sg, .ref lt])), (ca, .inr (0, [.ref ck, .ref cf, .ref cs, .ref ct, .int size])), (ck, .inl (cI, 12, .inl ki)), (cf, .inl (cI, 12, .inl fi)), (cs, .inl (cI, 12, .inl se)), (ct, .inl (cI, 12, .inl th)), (sg, .inr (5, [.ref lg, .int on, .int il, .int ba])), (lt, .inr (2, [.ref kt, .ref ht])), (kt, .inl (cI, 4, .inl kT1)), (ht, .inl (cI, 4, .inl hT1)), (lg, .inr (2, [.ref kg, .ref hg])), (kg, .inl (cI, 4, .inl kn)), (hg, .inl (cI, 4, .inl ho))] → va_S A s.heap H locs → lv_has ls 3 [(2, .int i), (0, .ref pl), (1, .int p1)] → W p l e R9 s m ([.ref pl, .int p1] : List Value).toArray below meth c H locs 0 0 Q9 (F0 m 20 ls []) := by
    subst hR9; subst hQ9
    intro n20
    induction n20 with
    | zero => intro kT1 hT1 i hi0 hi2; exact absurd hi2.2 (by decide)
    | succ n20 ih20 =>
      intro kT1 hT1 i hi0 hi2 hres20_r hres20_kT hres20_hT H locs ls hP hD hS hl
      refine lv_iload_n hx hb dX3_canBeClosed_20 rfl (lv_at hl 0 rfl) ?_
      refine lv_aload_n hx hb dX3_canBeClosed_21 rfl (lv_at hl 1 rfl) ?_
      refine va_get (D := (dC, dI)) (ci := 3) (v := .ref ca) (C := RX3) (T := TX3) (N := 3) hx hb hts iX3_canBeClosed_X3 hown hK hP 0 rfl rfl 0 (by decide) (hts _ kX3_canBeClosed_9) (fun _ h9 => h9) rfl dX3_canBeClosed_22 ?_
      refine va_get (D := (dC, dI)) (ci := 0) (v := .int size) (C := RX0) (T := TX0) (N := 5) hx hb hts iX3_canBeClosed_X0 hown hK hP 1 rfl rfl 4 (by decide) (hts _ kX3_canBeClosed_11) (fun _ h9 => h9) rfl dX3_canBeClosed_25 ?_
      refine lv_icmp_ge (tgt := 47) hx hb dX3_canBeClosed_28 (by decide) (fun c_1 => ?_) (fun c_1 => ?_)
      · refine lv_iconst (v := 1) hx hb dX3_canBeClosed_47 (by decide) ?_
        exact W.zret (v := (1 : Int32)) hx hb hr (zNar (Or.inr rfl)) (fun t ht hW => ⟨⟨(1 : Int32), (kT1, hT1), rfl, ⟨(by rw [← hres20_r]; rw [lX3_canBeClosed_20_r]; rw [if_pos c_1]), (by rw [← hres20_kT]; rw [lX3_canBeClosed_20_kT]; rw [if_pos c_1]), (by rw [← hres20_hT]; rw [lX3_canBeClosed_20_hT]; rw [if_pos c_1])⟩, (by rw [ht]; exact hP.sub [0, 1, 2, 3, 4, 5, 6, 7, 8, 9, 10, 11, 12] rfl), va_K.moved hW.alike hK, hD.sub [0, 1, 2, 3, 4, 5, 6, 7, 8, 9, 10, 11, 12] (by decide) rfl⟩, hS.F ht⟩) hS.2.2 dX3_canBeClosed_48
      · refine lv_aload_n hx hb dX3_canBeClosed_31 rfl (lv_at hl 1 rfl) ?_
        refine lv_iload_n hx hb dX3_canBeClosed_32 rfl (lv_at hl 0 rfl) ?_
        refine zkI (wr := [(lg, .inr (2, [.ref kg, .ref hg])), (kg, .inl (cI, 4, .inl kn)), (hg, .inl (cI, 4, .inl ho))]) (r0 := (rX3_canBeDone ki fi se th size on il ba kT1 hT1 i)) (u0 := ((oX3_canBeDone_kT ki fi se th size on il ba kT1 hT1 i), (oX3_canBeDone_hT ki fi se th size on il ba kT1 hT1 i))) (va_runV (As := [.int i]) (rest := []) ⟨hx, hb, hml, hown, hts⟩ (c_X3_canBeDone l dC dI cI cJ pl ca ck cf cs ct sg lt kt ht lg H.size ki fi se th size on il ba kT1 hT1 i (by assumption) (by assumption) (by first | assumption | exact zin_a (by assumption) (by assumption) (by assumption) | exact zin_c (by assumption) (by assumption) (by assumption) | exact zin_c (by assumption) (by assumption) (by decide) | exact zin_e (by assumption) (by assumption) (by decide) | exact zin_e (by assumption) (by assumption) (by assumption) | exact zin_f (by assumption) (by assumption) (by assumption)) (hTH _ (zin_lt (by first | assumption | exact zin_a (by assumption) (by assumption) (by assumption) | exact zin_c (by assumption) (by assumption) (by assumption) | exact zin_c (by assumption) (by assumption) (by decide) | exact zin_e (by assumption) (by assumption) (by decide) | exact zin_e (by assumption) (by assumption) (by assumption) | exact zin_f (by assumption) (by assumption) (by assumption))))) (cwV 1 hts gX3_canBeClosed_X3_canBeDone rfl rfl rfl (by decide +kernel) ⟨Nat.le_of_ble_eq_true rfl, Nat.le_of_ble_eq_true rfl⟩) (zpV hK hP hD hS hA hG [0, 1, 2, 3, 4, 5, 6, 7, 8, 9] (by decide) rfl 3 0 rfl rfl) rfl rfl hl.1 rfl (lv_room (Nat.le_of_ble_eq_true rfl)) dX3_canBeClosed_33 ⟨Nat.le_of_ble_eq_true rfl, Nat.le_of_ble_eq_true rfl⟩) (fun r u h => ⟨h.1, zT2 h.2.1 h.2.2⟩) hP hD hS hA [0, 1, 2, 3, 4, 5, 6, 7, 8, 9] [10, 11, 12] rfl rfl (by decide) (by decide) (fun H locs hP hD hS => ?_)
        try dsimp only [List.cons_append, List.nil_append] at hP hD
        have hP : va_P (dC, dI) vwCl [(lg, .inr (2, [.ref kg, .ref hg])), (kg, .inl (cI, 4, .inl kn)), (hg, .inl (cI, 4, .inl ho)), (pl, .inr (3, [.ref ca, .ref sg, .ref lt])), (ca, .inr (0, [.ref ck, .ref cf, .ref cs, .ref ct, .int size])), (ck, .inl (cI, 12, .inl ki)), (cf, .inl (cI, 12, .inl fi)), (cs, .inl (cI, 12, .inl se)), (ct, .inl (cI, 12, .inl th)), (sg, .inr (5, [.ref lg, .int on, .int il, .int ba])), (lt, .inr (2, [.ref kt, .ref ht])), (kt, .inl (cI, 4, .inl (oX3_canBeDone_kT ki fi se th size on il ba kT1 hT1 i))), (ht, .inl (cI, 4, .inl (oX3_canBeDone_hT ki fi se th size on il ba kT1 hT1 i)))] H := hP
        have hD : va_D A [(lg, .inr (2, [.ref kg, .ref hg])), (kg, .inl (cI, 4, .inl kn)), (hg, .inl (cI, 4, .inl ho)), (pl, .inr (3, [.ref ca, .ref sg, .ref lt])), (ca, .inr (0, [.ref ck, .ref cf, .ref cs, .ref ct, .int size])), (ck, .inl (cI, 12, .inl ki)), (cf, .inl (cI, 12, .inl fi)), (cs, .inl (cI, 12, .inl se)), (ct, .inl (cI, 12, .inl th)), (sg, .inr (5, [.ref lg, .int on, .int il, .int ba])), (lt, .inr (2, [.ref kt, .ref ht])), (kt, .inl (cI, 4, .inl (oX3_canBeDone_kT ki fi se th size on il ba kT1 hT1 i))), (ht, .inl (cI, 4, .inl (oX3_canBeDone_hT ki fi se th size on il ba kT1 hT1 i)))] := hD
        refine lv_if_ne (tgt := 41) hx hb dX3_canBeClosed_36 (by decide) (fun c_2 => ?_) (fun c_2 => ?_)
        · refine lv_iinc (v := (i + 1)) (lv' := [(2, .int (i + 1)), (0, .ref pl), (1, .int p1)]) hx hb dX3_canBeClosed_41 hl (k := 0) rfl rfl (by decide) rfl (fun ls hl => ?_)
          refine lv_goto (tgt := 20) hx hb dX3_canBeClosed_44 (by decide) ?_
          exact ih20 (oX3_canBeDone_kT ki fi se th size on il ba kT1 hT1 i) (oX3_canBeDone_hT ki fi se th size on il ba kT1 hT1 i) (i + 1) (by have h9 := zInc (x := i) (y := size) (by assumption); omega) (by have h9 := zInc (x := i) (y := size) (by assumption); have h8 := zGo (x := i) (y := size) (by assumption); omega) (by rw [← hres20_r]; rw [lX3_canBeClosed_20_r]; rw [if_neg c_1, if_neg c_2]) (by rw [← hres20_kT]; rw [lX3_canBeClosed_20_kT]; rw [if_neg c_1, if_neg c_2]) (by rw [← hres20_hT]; rw [lX3_canBeClosed_20_hT]; rw [if_neg c_1, if_neg c_2]) _ _ _ (hP.sub [3, 4, 5, 6, 7, 8, 9, 10, 11, 12, 0, 1, 2] rfl) (hD.sub [3, 4, 5, 6, 7, 8, 9, 10, 11, 12, 0, 1, 2] (by decide) rfl) hS (lv_sub hl [0, 1, 2] rfl)
        · refine lv_iconst (v := 0) hx hb dX3_canBeClosed_39 (by decide) ?_
          exact W.zret (v := (0 : Int32)) hx hb hr (zNar (Or.inl rfl)) (fun t ht hW => ⟨⟨(0 : Int32), ((oX3_canBeDone_kT ki fi se th size on il ba kT1 hT1 i), (oX3_canBeDone_hT ki fi se th size on il ba kT1 hT1 i)), rfl, ⟨(by rw [← hres20_r]; rw [lX3_canBeClosed_20_r]; rw [if_neg c_1, if_pos c_2]), (by rw [← hres20_kT]; rw [lX3_canBeClosed_20_kT]; rw [if_neg c_1, if_pos c_2]), (by rw [← hres20_hT]; rw [lX3_canBeClosed_20_hT]; rw [if_neg c_1, if_pos c_2])⟩, (by rw [ht]; exact hP.sub [3, 4, 5, 6, 7, 8, 9, 10, 11, 12, 0, 1, 2] rfl), va_K.moved hW.alike hK, hD.sub [3, 4, 5, 6, 7, 8, 9, 10, 11, 12, 0, 1, 2] (by decide) rfl⟩, hS.F ht⟩) hS.2.2 dX3_canBeClosed_40
  subst hR9; subst hQ9
  exact L20 14 (oX2_copyFrom_fk kT hT kn ho) (oX2_copyFrom_fh kT hT kn ho) (if p1 < (0 : Int32) then (0 : Int32) else p1) (zMax0 p1) (by have h9 := zMax0 p1; omega) (by unfold rX3_canBeClosed; rfl) (by unfold oX3_canBeClosed_kT; rfl) (by unfold oX3_canBeClosed_hT; rfl) _ _ _ hP hD hS (lv_sub hl [0, 1, 2] rfl)
theorem blX3_canBeClosed_20_r (ki : Nat → Int32) (fi : Nat → Int32) (se : Nat → Int32) (th : Nat → Int32) (size : Int32) (on : Int32) (il : Int32) (ba : Int32) (kT : Nat → Int32) (hT : Nat → Int32) (kn : Nat → Int32) (ho : Nat → Int32) (p1 : Int32) : ∀ (n : Nat) y0 y1 y2, lX3_canBeClosed_20_r ki fi se th size on il ba kT hT kn ho p1 n y0 y1 y2 = 0 ∨ lX3_canBeClosed_20_r ki fi se th size on il ba kT hT kn ho p1 n y0 y1 y2 = 1 := by
  intro n
  induction n with
  | zero => intros; exact Or.inl rfl
  | succ n ih =>
    intros
    rw [lX3_canBeClosed_20_r]
    repeat' split
    all_goals first | exact Or.inl rfl | exact Or.inr rfl | apply ih | exact brX3_canBeDone _ _ _ _ _ _ _ _ _ _ _
theorem brX3_canBeClosed (ki : Nat → Int32) (fi : Nat → Int32) (se : Nat → Int32) (th : Nat → Int32) (size : Int32) (on : Int32) (il : Int32) (ba : Int32) (kT : Nat → Int32) (hT : Nat → Int32) (kn : Nat → Int32) (ho : Nat → Int32) (p1 : Int32) : rX3_canBeClosed ki fi se th size on il ba kT hT kn ho p1 = 0 ∨ rX3_canBeClosed ki fi se th size on il ba kT hT kn ho p1 = 1 := by
  unfold rX3_canBeClosed
  repeat' split
  all_goals first | exact Or.inl rfl | exact Or.inr rfl | exact blX3_canBeClosed_20_r _ _ _ _ _ _ _ _ _ _ _ _ _ _ _ _ _

/-! X4_toHaveOn -/
def rX4_toHaveOn (on : Int32) (il : Int32) (ba : Int32) (p1 : Int32) : Int32 := (if (rX7_isIn on p1) = 0 then (1 : Int32) else (0 : Int32))
set_option maxRecDepth 20000 in
theorem iX4_toHaveOn_X4 : ∀ w ∈ u_ws RX4 TX4 2, w ∈ wsX4_toHaveOn := by decide +kernel
set_option maxRecDepth 20000 in
theorem kX4_toHaveOn_1 : Cond.fieldLink RX4 15 "MaskHall$ReckonedWay" "stage" "LMaskHall$Stage;" ∈ wsX4_toHaveOn := by decide +kernel
set_option maxRecDepth 20000 in
theorem iX4_toHaveOn_X5 : ∀ w ∈ u_ws RX5 TX5 4, w ∈ wsX4_toHaveOn := by decide +kernel
set_option maxRecDepth 20000 in
theorem kX4_toHaveOn_3 : Cond.fieldLink RX4 38 "MaskHall$Stage" "onMasks" "I" ∈ wsX4_toHaveOn := by decide +kernel
set_option maxRecDepth 20000 in
theorem kX4_toHaveOn_4 : Cond.initialized RX7 ∈ wsX4_toHaveOn := by decide +kernel
set_option maxRecDepth 20000 in
theorem kX4_toHaveOn_5 : Cond.static yX7_isIn ∈ wsX4_toHaveOn := by decide +kernel
set_option maxHeartbeats 380000 in
set_option maxRecDepth 100000 in
theorem c_X4_toHaveOn (l : Launch) (dC : Nat → ClassId) (dI : Nat → Nat → Nat) (cI cJ : ClassId) (rw sg ca lg : Nat) (sz : Nat) (on : Int32) (il : Int32) (ba : Int32) (p1 : Int32) : Met l yX4_toHaveOn wsX4_toHaveOn ({ frames := 1, cells := 0, slots := 0, locals := 21 }) (va_Pc [.ref rw, .int p1] (zI (dC, dI) [(cI, .int), (cJ, .long)] [(rw, .inr (4, [.ref ca, .ref sg])), (sg, .inr (5, [.ref lg, .int on, .int il, .int ba]))] sz)) (vp_Si (fun r => r = rX4_toHaveOn on il ba p1)) 0 0 (fun _ => False) := by
  refine Met.ofW (cc := cX4_toHaveOn) (maxL := 2) (ret := (some .int)) (by decide) rfl ?_
  intro p e s m args below meth c s₁ B hml hv
  obtain ⟨rfl, hsz, hP, hK, hD0, hG⟩ := hv
  have hx := B.exec
  have hb := B.bytes
  have hr := B.returns
  have hts := atoms_spec (ws := wsX4_toHaveOn) B.pre
  have hown : s.vm.findClass RX4 = some m.cls := findClass_of_methodNamed B.named
  have hlocks := B.notSynchronized
  subst hsz
  have hD := hD0.self (sz := s.heap.size)
  generalize hAe : va_A [(rw, .inr (4, [.ref ca, .ref sg])), (sg, .inr (5, [.ref lg, .int on, .int il, .int ba]))] s.heap.size = A at hD hG
  have hA : ∀ q : Nat, s.heap.size ≤ q → A q := fun q h => by rw [← hAe]; exact Or.inr h
  have hS : va_S A s.heap s.heap [] := va_S.rf
  have hP : va_P (dC, dI) vwCl [(rw, .inr (4, [.ref ca, .ref sg])), (sg, .inr (5, [.ref lg, .int on, .int il, .int ba]))] s.heap := hP
  have hl := lv_entry ([.ref rw, .int p1]) (n := 2) (Nat.le_of_ble_eq_true rfl)
  rw [lg_entry_eq]
  generalize (lg_sl ([.ref rw, .int p1]) ++ List.replicate (2 - (lg_sl ([.ref rw, .int p1])).length) Slot.unset).toArray = ls at hl ⊢
  have hl : lv_has ls 2 [(0, .ref rw), (1, .int p1)] := hl
  refine lv_aload_n hx hb dX4_toHaveOn_0 rfl (lv_at hl 0 rfl) ?_
  refine va_get (D := (dC, dI)) (ci := 4) (v := .ref sg) (C := RX4) (T := TX4) (N := 2) hx hb hts iX4_toHaveOn_X4 hown hK hP 0 rfl rfl 1 (by decide) (hts _ kX4_toHaveOn_1) (fun _ h9 => h9) rfl dX4_toHaveOn_1 ?_
  refine va_get (D := (dC, dI)) (ci := 5) (v := .int on) (C := RX5) (T := TX5) (N := 4) hx hb hts iX4_toHaveOn_X5 hown hK hP 1 rfl rfl 1 (by decide) (hts _ kX4_toHaveOn_3) (fun _ h9 => h9) rfl dX4_toHaveOn_4 ?_
  refine lv_iload_n hx hb dX4_toHaveOn_7 rfl (lv_at hl 1 rfl) ?_
  refine zcSi (va_runSN (As := [.int on, .int p1]) (rest := []) ⟨hx, hb, hml, hown, hts⟩ (c_X7_isIn l dC dI cI cJ s.heap.size on p1 ) ⟨va_cnB 2 hts gX4_toHaveOn_X7_isIn_n43 rfl rfl rfl (hG.1.1 _ (List.mem_of_getElem? (i := 5) rfl)) (hts _ kX4_toHaveOn_4) (by decide +kernel) ⟨Nat.le_of_ble_eq_true rfl, Nat.le_of_ble_eq_true rfl⟩, (hts _ kX4_toHaveOn_5), trivial⟩ (zpS hK hP hD hS hA hG [] (by decide) rfl) rfl rfl hl.1 rfl (lv_room (Nat.le_of_ble_eq_true rfl)) dX4_toHaveOn_8 ⟨Nat.le_of_ble_eq_true rfl, Nat.le_of_ble_eq_true rfl⟩) ?_
  refine lv_if_eq (tgt := 18) hx hb dX4_toHaveOn_11 (by decide) (fun c_1 => ?_) (fun c_1 => ?_)
  · refine lv_iconst (v := 1) hx hb dX4_toHaveOn_18 (by decide) ?_
    exact W.iret (v := (1 : Int32)) hx hb hr (fun t ht hW => ⟨_, rfl, (by unfold rX4_toHaveOn; rw [if_pos c_1]), ht⟩) (fun q hq => absurd hq List.not_mem_nil) dX4_toHaveOn_19
  · refine lv_iconst (v := 0) hx hb dX4_toHaveOn_14 (by decide) ?_
    refine lv_goto (tgt := 19) hx hb dX4_toHaveOn_15 (by decide) ?_
    exact W.iret (v := (0 : Int32)) hx hb hr (fun t ht hW => ⟨_, rfl, (by unfold rX4_toHaveOn; rw [if_neg c_1]), ht⟩) (fun q hq => absurd hq List.not_mem_nil) dX4_toHaveOn_19

/-! X4_toHear -/
def rX4_toHear (on : Int32) (il : Int32) (ba : Int32) (kn : Nat → Int32) (ho : Nat → Int32) (p1 : Int32) (p2 : Int32) : Int32 := (if (rX7_isIn (kn (p2).toNatClampNeg) p1) = 0 then (if ((kn (p2).toNatClampNeg) &&& on) = 0 then (2 : Int32) else (1 : Int32)) else (0 : Int32))
set_option maxRecDepth 20000 in
theorem iX4_toHear_X4 : ∀ w ∈ u_ws RX4 TX4 2, w ∈ wsX4_toHear := by decide +kernel
set_option maxRecDepth 20000 in
theorem kX4_toHear_1 : Cond.fieldLink RX4 15 "MaskHall$ReckonedWay" "stage" "LMaskHall$Stage;" ∈ wsX4_toHear := by decide +kernel
set_option maxRecDepth 20000 in
theorem iX4_toHear_X5 : ∀ w ∈ u_ws RX5 TX5 4, w ∈ wsX4_toHear := by decide +kernel
set_option maxRecDepth 20000 in
theorem kX4_toHear_3 : Cond.fieldLink RX4 59 "MaskHall$Stage" "lore" "LMaskHall$Lore;" ∈ wsX4_toHear := by decide +kernel
set_option maxRecDepth 20000 in
theorem iX4_toHear_X2 : ∀ w ∈ u_ws RX2 TX2 2, w ∈ wsX4_toHear := by decide +kernel
set_option maxRecDepth 20000 in
theorem kX4_toHear_5 : Cond.fieldLink RX4 63 "MaskHall$Lore" "knowers" "[I" ∈ wsX4_toHear := by decide +kernel
set_option maxRecDepth 20000 in
theorem kX4_toHear_6 : Cond.initialized RX7 ∈ wsX4_toHear := by decide +kernel
set_option maxRecDepth 20000 in
theorem kX4_toHear_7 : Cond.static yX7_isIn ∈ wsX4_toHear := by decide +kernel
set_option maxRecDepth 20000 in
theorem kX4_toHear_8 : Cond.fieldLink RX4 38 "MaskHall$Stage" "onMasks" "I" ∈ wsX4_toHear := by decide +kernel
set_option maxHeartbeats 620000 in
set_option maxRecDepth 100000 in
theorem c_X4_toHear (l : Launch) (dC : Nat → ClassId) (dI : Nat → Nat → Nat) (cI cJ : ClassId) (rw sg lg kg hg ca : Nat) (sz : Nat) (on : Int32) (il : Int32) (ba : Int32) (kn : Nat → Int32) (ho : Nat → Int32) (p1 : Int32) (p2 : Int32) (hin2 : vp_in p2 4) : Met l yX4_toHear wsX4_toHear ({ frames := 1, cells := 0, slots := 0, locals := 21 }) (va_Pc [.ref rw, .int p1, .int p2] (zI (dC, dI) [(cI, .int), (cJ, .long)] [(rw, .inr (4, [.ref ca, .ref sg])), (sg, .inr (5, [.ref lg, .int on, .int il, .int ba])), (lg, .inr (2, [.ref kg, .ref hg])), (kg, .inl (cI, 4, .inl kn)), (hg, .inl (cI, 4, .inl ho))] sz)) (vp_Si (fun r => r = rX4_toHear on il ba kn ho p1 p2)) 0 0 (fun _ => False) := by
  refine Met.ofW (cc := cX4_toHear) (maxL := 4) (ret := (some .int)) (by decide) rfl ?_
  intro p e s m args below meth c s₁ B hml hv
  obtain ⟨rfl, hsz, hP, hK, hD0, hG⟩ := hv
  have hx := B.exec
  have hb := B.bytes
  have hr := B.returns
  have hts := atoms_spec (ws := wsX4_toHear) B.pre
  have hown : s.vm.findClass RX4 = some m.cls := findClass_of_methodNamed B.named
  have hlocks := B.notSynchronized
  subst hsz
  have hD := hD0.self (sz := s.heap.size)
  generalize hAe : va_A [(rw, .inr (4, [.ref ca, .ref sg])), (sg, .inr (5, [.ref lg, .int on, .int il, .int ba])), (lg, .inr (2, [.ref kg, .ref hg])), (kg, .inl (cI, 4, .inl kn)), (hg, .inl (cI, 4, .inl ho))] s.heap.size = A at hD hG
  have hA : ∀ q : Nat, s.heap.size ≤ q → A q := fun q h => by rw [← hAe]; exact Or.inr h
  have hS : va_S A s.heap s.heap [] := va_S.rf
  have hP : va_P (dC, dI) vwCl [(rw, .inr (4, [.ref ca, .ref sg])), (sg, .inr (5, [.ref lg, .int on, .int il, .int ba])), (lg, .inr (2, [.ref kg, .ref hg])), (kg, .inl (cI, 4, .inl kn)), (hg, .inl (cI, 4, .inl ho))] s.heap := hP
  have hl := lv_entry ([.ref rw, .int p1, .int p2]) (n := 4) (Nat.le_of_ble_eq_true rfl)
  rw [lg_entry_eq]
  generalize (lg_sl ([.ref rw, .int p1, .int p2]) ++ List.replicate (4 - (lg_sl ([.ref rw, .int p1, .int p2])).length) Slot.unset).toArray = ls at hl ⊢
  have hl : lv_has ls 4 [(0, .ref rw), (1, .int p1), (2, .int p2)] := hl
  refine lv_aload_n hx hb dX4_toHear_0 rfl (lv_at hl 0 rfl) ?_
  refine va_get (D := (dC, dI)) (ci := 4) (v := .ref sg) (C := RX4) (T := TX4) (N := 2) hx hb hts iX4_toHear_X4 hown hK hP 0 rfl rfl 1 (by decide) (hts _ kX4_toHear_1) (fun _ h9 => h9) rfl dX4_toHear_1 ?_
  refine va_get (D := (dC, dI)) (ci := 5) (v := .ref lg) (C := RX5) (T := TX5) (N := 4) hx hb hts iX4_toHear_X5 hown hK hP 1 rfl rfl 0 (by decide) (hts _ kX4_toHear_3) (fun _ h9 => h9) rfl dX4_toHear_4 ?_
  refine va_get (D := (dC, dI)) (ci := 2) (v := .ref kg) (C := RX2) (T := TX2) (N := 2) hx hb hts iX4_toHear_X2 hown hK hP 2 rfl rfl 0 (by decide) (hts _ kX4_toHear_5) (fun _ h9 => h9) rfl dX4_toHear_7 ?_
  refine lv_iload_n hx hb dX4_toHear_10 rfl (lv_at hl 2 rfl) ?_
  refine va_iald hx hb hK hP 3 0 rfl rfl (i := p2) hin2 dX4_toHear_11 ?_
  refine lv_istore_n (lv' := [(3, .int (kn (p2).toNatClampNeg)), (0, .ref rw), (1, .int p1), (2, .int p2)]) hx hb dX4_toHear_12 rfl hl (by decide) rfl (fun ls hl => ?_)
  refine lv_iload_n hx hb dX4_toHear_13 rfl (lv_at hl 0 rfl) ?_
  refine lv_iload_n hx hb dX4_toHear_14 rfl (lv_at hl 2 rfl) ?_
  refine zcSi (va_runSN (As := [.int (kn (p2).toNatClampNeg), .int p1]) (rest := []) ⟨hx, hb, hml, hown, hts⟩ (c_X7_isIn l dC dI cI cJ s.heap.size (kn (p2).toNatClampNeg) p1 ) ⟨va_cnB 2 hts gX4_toHear_X7_isIn_n43 rfl rfl rfl (hG.1.1 _ (List.mem_of_getElem? (i := 5) rfl)) (hts _ kX4_toHear_6) (by decide +kernel) ⟨Nat.le_of_ble_eq_true rfl, Nat.le_of_ble_eq_true rfl⟩, (hts _ kX4_toHear_7), trivial⟩ (zpS hK hP hD hS hA hG [] (by decide) rfl) rfl rfl hl.1 rfl (lv_room (Nat.le_of_ble_eq_true rfl)) dX4_toHear_15 ⟨Nat.le_of_ble_eq_true rfl, Nat.le_of_ble_eq_true rfl⟩) ?_
  refine lv_if_eq (tgt := 23) hx hb dX4_toHear_18 (by decide) (fun c_1 => ?_) (fun c_1 => ?_)
  · refine lv_iload_n hx hb dX4_toHear_23 rfl (lv_at hl 0 rfl) ?_
    refine lv_aload_n hx hb dX4_toHear_24 rfl (lv_at hl 1 rfl) ?_
    refine va_get (D := (dC, dI)) (ci := 4) (v := .ref sg) (C := RX4) (T := TX4) (N := 2) hx hb hts iX4_toHear_X4 hown hK hP 0 rfl rfl 1 (by decide) (hts _ kX4_toHear_1) (fun _ h9 => h9) rfl dX4_toHear_25 ?_
    refine va_get (D := (dC, dI)) (ci := 5) (v := .int on) (C := RX5) (T := TX5) (N := 4) hx hb hts iX4_toHear_X5 hown hK hP 1 rfl rfl 1 (by decide) (hts _ kX4_toHear_8) (fun _ h9 => h9) rfl dX4_toHear_28 ?_
    refine lv_iand hx hb dX4_toHear_31 ?_
    refine lv_if_eq (tgt := 39) hx hb dX4_toHear_32 (by decide) (fun c_2 => ?_) (fun c_2 => ?_)
    · refine lv_iconst (v := 2) hx hb dX4_toHear_39 (by decide) ?_
      exact W.iret (v := (2 : Int32)) hx hb hr (fun t ht hW => ⟨_, rfl, (by unfold rX4_toHear; rw [if_pos c_1, if_pos c_2]), ht⟩) (fun q hq => absurd hq List.not_mem_nil) dX4_toHear_40
    · refine lv_iconst (v := 1) hx hb dX4_toHear_35 (by decide) ?_
      refine lv_goto (tgt := 40) hx hb dX4_toHear_36 (by decide) ?_
      exact W.iret (v := (1 : Int32)) hx hb hr (fun t ht hW => ⟨_, rfl, (by unfold rX4_toHear; rw [if_pos c_1, if_neg c_2]), ht⟩) (fun q hq => absurd hq List.not_mem_nil) dX4_toHear_40
  · refine lv_iconst (v := 0) hx hb dX4_toHear_21 (by decide) ?_
    exact W.iret (v := (0 : Int32)) hx hb hr (fun t ht hW => ⟨_, rfl, (by unfold rX4_toHear; rw [if_neg c_1]), ht⟩) (fun q hq => absurd hq List.not_mem_nil) dX4_toHear_22

/-! X4_toGet -/
def rX4_toGet (on : Int32) (il : Int32) (ba : Int32) (kn : Nat → Int32) (ho : Nat → Int32) (p1 : Int32) (p2 : Int32) (p3 : Int32) : Int32 := (if (ho (p3).toNatClampNeg) = p1 then (0 : Int32) else (if (ho (p3).toNatClampNeg) = (-1 : Int32) then (1 : Int32) else (if (ho (p3).toNatClampNeg) = p2 then (1 : Int32) else ((rX4_toHaveOn on il ba (ho (p3).toNatClampNeg)) + (1 : Int32)))))
set_option maxRecDepth 20000 in
theorem iX4_toGet_X4 : ∀ w ∈ u_ws RX4 TX4 2, w ∈ wsX4_toGet := by decide +kernel
set_option maxRecDepth 20000 in
theorem kX4_toGet_1 : Cond.fieldLink RX4 15 "MaskHall$ReckonedWay" "stage" "LMaskHall$Stage;" ∈ wsX4_toGet := by decide +kernel
set_option maxRecDepth 20000 in
theorem iX4_toGet_X5 : ∀ w ∈ u_ws RX5 TX5 4, w ∈ wsX4_toGet := by decide +kernel
set_option maxRecDepth 20000 in
theorem kX4_toGet_3 : Cond.fieldLink RX4 59 "MaskHall$Stage" "lore" "LMaskHall$Lore;" ∈ wsX4_toGet := by decide +kernel
set_option maxRecDepth 20000 in
theorem iX4_toGet_X2 : ∀ w ∈ u_ws RX2 TX2 2, w ∈ wsX4_toGet := by decide +kernel
set_option maxRecDepth 20000 in
theorem kX4_toGet_5 : Cond.fieldLink RX4 68 "MaskHall$Lore" "holders" "[I" ∈ wsX4_toGet := by decide +kernel
set_option maxHeartbeats 680000 in
set_option maxRecDepth 100000 in
theorem c_X4_toGet (l : Launch) (dC : Nat → ClassId) (dI : Nat → Nat → Nat) (cI cJ : ClassId) (rw sg lg kg hg ca : Nat) (sz : Nat) (on : Int32) (il : Int32) (ba : Int32) (kn : Nat → Int32) (ho : Nat → Int32) (p1 : Int32) (p2 : Int32) (p3 : Int32) (hin3 : vp_in p3 4) : Met l yX4_toGet wsX4_toGet ({ frames := 2, cells := 0, slots := 0, locals := 42 }) (va_Pc [.ref rw, .int p1, .int p2, .int p3] (zI (dC, dI) [(cI, .int), (cJ, .long)] [(rw, .inr (4, [.ref ca, .ref sg])), (sg, .inr (5, [.ref lg, .int on, .int il, .int ba])), (lg, .inr (2, [.ref kg, .ref hg])), (kg, .inl (cI, 4, .inl kn)), (hg, .inl (cI, 4, .inl ho))] sz)) (vp_Si (fun r => r = rX4_toGet on il ba kn ho p1 p2 p3)) 0 0 (fun _ => False) := by
  refine Met.ofW (cc := cX4_toGet) (maxL := 5) (ret := (some .int)) (by decide) rfl ?_
  intro p e s m args below meth c s₁ B hml hv
  obtain ⟨rfl, hsz, hP, hK, hD0, hG⟩ := hv
  have hx := B.exec
  have hb := B.bytes
  have hr := B.returns
  have hts := atoms_spec (ws := wsX4_toGet) B.pre
  have hown : s.vm.findClass RX4 = some m.cls := findClass_of_methodNamed B.named
  have hlocks := B.notSynchronized
  subst hsz
  have hD := hD0.self (sz := s.heap.size)
  generalize hAe : va_A [(rw, .inr (4, [.ref ca, .ref sg])), (sg, .inr (5, [.ref lg, .int on, .int il, .int ba])), (lg, .inr (2, [.ref kg, .ref hg])), (kg, .inl (cI, 4, .inl kn)), (hg, .inl (cI, 4, .inl ho))] s.heap.size = A at hD hG
  have hA : ∀ q : Nat, s.heap.size ≤ q → A q := fun q h => by rw [← hAe]; exact Or.inr h
  have hS : va_S A s.heap s.heap [] := va_S.rf
  have hP : va_P (dC, dI) vwCl [(rw, .inr (4, [.ref ca, .ref sg])), (sg, .inr (5, [.ref lg, .int on, .int il, .int ba])), (lg, .inr (2, [.ref kg, .ref hg])), (kg, .inl (cI, 4, .inl kn)), (hg, .inl (cI, 4, .inl ho))] s.heap := hP
  have hl := lv_entry ([.ref rw, .int p1, .int p2, .int p3]) (n := 5) (Nat.le_of_ble_eq_true rfl)
  rw [lg_entry_eq]
  generalize (lg_sl ([.ref rw, .int p1, .int p2, .int p3]) ++ List.replicate (5 - (lg_sl ([.ref rw, .int p1, .int p2, .int p3])).length) Slot.unset).toArray = ls at hl ⊢
  have hl : lv_has ls 5 [(0, .ref rw), (1, .int p1), (2, .int p2), (3, .int p3)] := hl
  refine lv_aload_n hx hb dX4_toGet_0 rfl (lv_at hl 0 rfl) ?_
  refine va_get (D := (dC, dI)) (ci := 4) (v := .ref sg) (C := RX4) (T := TX4) (N := 2) hx hb hts iX4_toGet_X4 hown hK hP 0 rfl rfl 1 (by decide) (hts _ kX4_toGet_1) (fun _ h9 => h9) rfl dX4_toGet_1 ?_
  refine va_get (D := (dC, dI)) (ci := 5) (v := .ref lg) (C := RX5) (T := TX5) (N := 4) hx hb hts iX4_toGet_X5 hown hK hP 1 rfl rfl 0 (by decide) (hts _ kX4_toGet_3) (fun _ h9 => h9) rfl dX4_toGet_4 ?_
  refine va_get (D := (dC, dI)) (ci := 2) (v := .ref hg) (C := RX2) (T := TX2) (N := 2) hx hb hts iX4_toGet_X2 hown hK hP 2 rfl rfl 1 (by decide) (hts _ kX4_toGet_5) (fun _ h9 => h9) rfl dX4_toGet_7 ?_
  refine lv_iload_n hx hb dX4_toGet_10 rfl (lv_at hl 3 rfl) ?_
  refine va_iald hx hb hK hP 4 0 rfl rfl (i := p3) hin3 dX4_toGet_11 ?_
  refine lv_istore (lv' := [(4, .int (ho (p3).toNatClampNeg)), (0, .ref rw), (1, .int p1), (2, .int p2), (3, .int p3)]) hx hb dX4_toGet_12 hl (by decide) rfl (fun ls hl => ?_)
  refine lv_iload hx hb dX4_toGet_14 (lv_at hl 0 rfl) ?_
  refine lv_iload_n hx hb dX4_toGet_16 rfl (lv_at hl 2 rfl) ?_
  refine lv_icmp_ne (tgt := 22) hx hb dX4_toGet_17 (by decide) (fun c_1 => ?_) (fun c_1 => ?_)
  · refine lv_iload hx hb dX4_toGet_22 (lv_at hl 0 rfl) ?_
    refine lv_iconst (v := -1) hx hb dX4_toGet_24 (by decide) ?_
    refine lv_icmp_eq (tgt := 34) hx hb dX4_toGet_25 (by decide) (fun c_2 => ?_) (fun c_2 => ?_)
    · refine lv_iconst (v := 1) hx hb dX4_toGet_34 (by decide) ?_
      exact W.iret (v := (1 : Int32)) hx hb hr (fun t ht hW => ⟨_, rfl, (by unfold rX4_toGet; rw [if_neg c_1, if_pos c_2]), ht⟩) (fun q hq => absurd hq List.not_mem_nil) dX4_toGet_35
    · refine lv_iload hx hb dX4_toGet_28 (lv_at hl 0 rfl) ?_
      refine lv_iload_n hx hb dX4_toGet_30 rfl (lv_at hl 3 rfl) ?_
      refine lv_icmp_ne (tgt := 36) hx hb dX4_toGet_31 (by decide) (fun c_3 => ?_) (fun c_3 => ?_)
      · refine lv_aload_n hx hb dX4_toGet_36 rfl (lv_at hl 1 rfl) ?_
        refine lv_iload hx hb dX4_toGet_37 (lv_at hl 0 rfl) ?_
        refine zcSi (va_runV (As := [.int (ho (p3).toNatClampNeg)]) (rest := []) ⟨hx, hb, hml, hown, hts⟩ (c_X4_toHaveOn l dC dI cI cJ rw sg ca lg s.heap.size on il ba (ho (p3).toNatClampNeg) ) (cwV 1 hts gX4_toGet_X4_toHaveOn rfl rfl rfl (by decide +kernel) ⟨Nat.le_of_ble_eq_true rfl, Nat.le_of_ble_eq_true rfl⟩) (zpV hK hP hD hS hA hG [0, 1] (by decide) rfl 4 0 rfl rfl) rfl rfl hl.1 rfl (lv_room (Nat.le_of_ble_eq_true rfl)) dX4_toGet_39 ⟨Nat.le_of_ble_eq_true rfl, Nat.le_of_ble_eq_true rfl⟩) ?_
        refine lv_iconst (v := 1) hx hb dX4_toGet_42 (by decide) ?_
        refine lv_iadd hx hb dX4_toGet_43 ?_
        exact W.iret (v := ((rX4_toHaveOn on il ba (ho (p3).toNatClampNeg)) + (1 : Int32))) hx hb hr (fun t ht hW => ⟨_, rfl, (by unfold rX4_toGet; rw [if_neg c_1, if_neg c_2, if_neg c_3]), ht⟩) (fun q hq => absurd hq List.not_mem_nil) dX4_toGet_44
      · refine lv_iconst (v := 1) hx hb dX4_toGet_34 (by decide) ?_
        exact W.iret (v := (1 : Int32)) hx hb hr (fun t ht hW => ⟨_, rfl, (by unfold rX4_toGet; rw [if_neg c_1, if_neg c_2, if_pos c_3]), ht⟩) (fun q hq => absurd hq List.not_mem_nil) dX4_toGet_35
  · refine lv_iconst (v := 0) hx hb dX4_toGet_20 (by decide) ?_
    exact W.iret (v := (0 : Int32)) hx hb hr (fun t ht hW => ⟨_, rfl, (by unfold rX4_toGet; rw [if_pos c_1]), ht⟩) (fun q hq => absurd hq List.not_mem_nil) dX4_toGet_21

/-! X4_movesTo -/
def rX4_movesTo (ki : Nat → Int32) (fi : Nat → Int32) (se : Nat → Int32) (th : Nat → Int32) (size : Int32) (on : Int32) (il : Int32) (ba : Int32) (kn : Nat → Int32) (ho : Nat → Int32) (p1 : Int32) : Int32 := (if p1 < 0 then (-1 : Int32) else (if p1 < size then (if (ki (p1).toNatClampNeg) = (0 : Int32) then ((((rX4_toHaveOn on il ba (fi (p1).toNatClampNeg)) + (rX4_toHaveOn on il ba (se (p1).toNatClampNeg))) + (rX4_toHear on il ba kn ho (fi (p1).toNatClampNeg) (th (p1).toNatClampNeg))) + (1 : Int32)) else (if (ki (p1).toNatClampNeg) = (1 : Int32) then ((((rX4_toHaveOn on il ba (fi (p1).toNatClampNeg)) + (rX4_toHaveOn on il ba (se (p1).toNatClampNeg))) + (rX4_toGet on il ba kn ho (fi (p1).toNatClampNeg) (se (p1).toNatClampNeg) (th (p1).toNatClampNeg))) + (1 : Int32)) else (if (ki (p1).toNatClampNeg) = (2 : Int32) then (if (rX7_isIn on (fi (p1).toNatClampNeg)) = 0 then (1 : Int32) else (2 : Int32)) else (if (ki (p1).toNatClampNeg) = (3 : Int32) then (if (rX7_isIn on (fi (p1).toNatClampNeg)) = 0 then (2 : Int32) else (1 : Int32)) else (((rX4_toHaveOn on il ba (fi (p1).toNatClampNeg)) + (rX4_toHaveOn on il ba (se (p1).toNatClampNeg))) + (1 : Int32)))))) else (-1 : Int32)))
set_option maxRecDepth 20000 in
theorem iX4_movesTo_X4 : ∀ w ∈ u_ws RX4 TX4 2, w ∈ wsX4_movesTo := by decide +kernel
set_option maxRecDepth 20000 in
theorem kX4_movesTo_1 : Cond.fieldLink RX4 9 "MaskHall$ReckonedWay" "canvas" "LMaskHall$Canvas;" ∈ wsX4_movesTo := by decide +kernel
set_option maxRecDepth 20000 in
theorem iX4_movesTo_X0 : ∀ w ∈ u_ws RX0 TX0 5, w ∈ wsX4_movesTo := by decide +kernel
set_option maxRecDepth 20000 in
theorem kX4_movesTo_3 : Cond.fieldLink RX4 19 "MaskHall$Canvas" "size" "I" ∈ wsX4_movesTo := by decide +kernel
set_option maxRecDepth 20000 in
theorem kX4_movesTo_4 : Cond.fieldLink RX4 25 "MaskHall$Canvas" "firsts" "[I" ∈ wsX4_movesTo := by decide +kernel
set_option maxRecDepth 20000 in
theorem kX4_movesTo_5 : Cond.fieldLink RX4 29 "MaskHall$Canvas" "seconds" "[I" ∈ wsX4_movesTo := by decide +kernel
set_option maxRecDepth 20000 in
theorem kX4_movesTo_6 : Cond.fieldLink RX4 32 "MaskHall$Canvas" "things" "[I" ∈ wsX4_movesTo := by decide +kernel
set_option maxRecDepth 20000 in
theorem kX4_movesTo_7 : Cond.fieldLink RX4 35 "MaskHall$Canvas" "kinds" "[I" ∈ wsX4_movesTo := by decide +kernel
set_option maxRecDepth 20000 in
theorem kX4_movesTo_8 : Cond.fieldLink RX4 15 "MaskHall$ReckonedWay" "stage" "LMaskHall$Stage;" ∈ wsX4_movesTo := by decide +kernel
set_option maxRecDepth 20000 in
theorem iX4_movesTo_X5 : ∀ w ∈ u_ws RX5 TX5 4, w ∈ wsX4_movesTo := by decide +kernel
set_option maxRecDepth 20000 in
theorem kX4_movesTo_10 : Cond.fieldLink RX4 38 "MaskHall$Stage" "onMasks" "I" ∈ wsX4_movesTo := by decide +kernel
set_option maxRecDepth 20000 in
theorem kX4_movesTo_11 : Cond.initialized RX7 ∈ wsX4_movesTo := by decide +kernel
set_option maxRecDepth 20000 in
theorem kX4_movesTo_12 : Cond.static yX7_isIn ∈ wsX4_movesTo := by decide +kernel
set_option maxHeartbeats 2060000 in
set_option maxRecDepth 100000 in
theorem c_X4_movesTo (l : Launch) (dC : Nat → ClassId) (dI : Nat → Nat → Nat) (cI cJ : ClassId) (rw ca ck cf cs ct sg lg kg hg : Nat) (sz : Nat) (ki : Nat → Int32) (fi : Nat → Int32) (se : Nat → Int32) (th : Nat → Int32) (size : Int32) (on : Int32) (il : Int32) (ba : Int32) (kn : Nat → Int32) (ho : Nat → Int32) (p1 : Int32) (hsz0 : 0 ≤ size.toInt) (hsz : size.toInt ≤ 12) (hTH : ∀ j : Nat, j < 12 → vp_in (th j) 4) : Met l yX4_movesTo wsX4_movesTo ({ frames := 3, cells := 0, slots := 0, locals := 66 }) (va_Pc [.ref rw, .int p1] (zI (dC, dI) [(cI, .int), (cJ, .long)] [(rw, .inr (4, [.ref ca, .ref sg])), (ca, .inr (0, [.ref ck, .ref cf, .ref cs, .ref ct, .int size])), (ck, .inl (cI, 12, .inl ki)), (cf, .inl (cI, 12, .inl fi)), (cs, .inl (cI, 12, .inl se)), (ct, .inl (cI, 12, .inl th)), (sg, .inr (5, [.ref lg, .int on, .int il, .int ba])), (lg, .inr (2, [.ref kg, .ref hg])), (kg, .inl (cI, 4, .inl kn)), (hg, .inl (cI, 4, .inl ho))] sz)) (vp_Si (fun r => r = rX4_movesTo ki fi se th size on il ba kn ho p1)) 0 0 (fun _ => False) := by
  refine Met.ofW (cc := cX4_movesTo) (maxL := 5) (ret := (some .int)) (by decide) rfl ?_
  intro p e s m args below meth c s₁ B hml hv
  obtain ⟨rfl, hsz, hP, hK, hD0, hG⟩ := hv
  have hx := B.exec
  have hb := B.bytes
  have hr := B.returns
  have hts := atoms_spec (ws := wsX4_movesTo) B.pre
  have hown : s.vm.findClass RX4 = some m.cls := findClass_of_methodNamed B.named
  have hlocks := B.notSynchronized
  subst hsz
  have hD := hD0.self (sz := s.heap.size)
  generalize hAe : va_A [(rw, .inr (4, [.ref ca, .ref sg])), (ca, .inr (0, [.ref ck, .ref cf, .ref cs, .ref ct, .int size])), (ck, .inl (cI, 12, .inl ki)), (cf, .inl (cI, 12, .inl fi)), (cs, .inl (cI, 12, .inl se)), (ct, .inl (cI, 12, .inl th)), (sg, .inr (5, [.ref lg, .int on, .int il, .int ba])), (lg, .inr (2, [.ref kg, .ref hg])), (kg, .inl (cI, 4, .inl kn)), (hg, .inl (cI, 4, .inl ho))] s.heap.size = A at hD hG
  have hA : ∀ q : Nat, s.heap.size ≤ q → A q := fun q h => by rw [← hAe]; exact Or.inr h
  have hS : va_S A s.heap s.heap [] := va_S.rf
  have hP : va_P (dC, dI) vwCl [(rw, .inr (4, [.ref ca, .ref sg])), (ca, .inr (0, [.ref ck, .ref cf, .ref cs, .ref ct, .int size])), (ck, .inl (cI, 12, .inl ki)), (cf, .inl (cI, 12, .inl fi)), (cs, .inl (cI, 12, .inl se)), (ct, .inl (cI, 12, .inl th)), (sg, .inr (5, [.ref lg, .int on, .int il, .int ba])), (lg, .inr (2, [.ref kg, .ref hg])), (kg, .inl (cI, 4, .inl kn)), (hg, .inl (cI, 4, .inl ho))] s.heap := hP
  have hl := lv_entry ([.ref rw, .int p1]) (n := 5) (Nat.le_of_ble_eq_true rfl)
  rw [lg_entry_eq]
  generalize (lg_sl ([.ref rw, .int p1]) ++ List.replicate (5 - (lg_sl ([.ref rw, .int p1])).length) Slot.unset).toArray = ls at hl ⊢
  have hl : lv_has ls 5 [(0, .ref rw), (1, .int p1)] := hl
  refine lv_iload_n hx hb dX4_movesTo_0 rfl (lv_at hl 1 rfl) ?_
  refine lv_if_lt (tgt := 15) hx hb dX4_movesTo_1 (by decide) (fun c_1 => ?_) (fun c_1 => ?_)
  · refine lv_iconst (v := -1) hx hb dX4_movesTo_15 (by decide) ?_
    exact W.iret (v := (-1 : Int32)) hx hb hr (fun t ht hW => ⟨_, rfl, (by unfold rX4_movesTo; rw [if_pos c_1]), ht⟩) (fun q hq => absurd hq List.not_mem_nil) dX4_movesTo_16
  · refine lv_iload_n hx hb dX4_movesTo_4 rfl (lv_at hl 1 rfl) ?_
    refine lv_aload_n hx hb dX4_movesTo_5 rfl (lv_at hl 0 rfl) ?_
    refine va_get (D := (dC, dI)) (ci := 4) (v := .ref ca) (C := RX4) (T := TX4) (N := 2) hx hb hts iX4_movesTo_X4 hown hK hP 0 rfl rfl 0 (by decide) (hts _ kX4_movesTo_1) (fun _ h9 => h9) rfl dX4_movesTo_6 ?_
    refine va_get (D := (dC, dI)) (ci := 0) (v := .int size) (C := RX0) (T := TX0) (N := 5) hx hb hts iX4_movesTo_X0 hown hK hP 1 rfl rfl 4 (by decide) (hts _ kX4_movesTo_3) (fun _ h9 => h9) rfl dX4_movesTo_9 ?_
    refine lv_icmp_lt (tgt := 17) hx hb dX4_movesTo_12 (by decide) (fun c_2 => ?_) (fun c_2 => ?_)
    · refine lv_aload_n hx hb dX4_movesTo_17 rfl (lv_at hl 0 rfl) ?_
      refine va_get (D := (dC, dI)) (ci := 4) (v := .ref ca) (C := RX4) (T := TX4) (N := 2) hx hb hts iX4_movesTo_X4 hown hK hP 0 rfl rfl 0 (by decide) (hts _ kX4_movesTo_1) (fun _ h9 => h9) rfl dX4_movesTo_18 ?_
      refine va_get (D := (dC, dI)) (ci := 0) (v := .ref cf) (C := RX0) (T := TX0) (N := 5) hx hb hts iX4_movesTo_X0 hown hK hP 1 rfl rfl 1 (by decide) (hts _ kX4_movesTo_4) (fun _ h9 => h9) rfl dX4_movesTo_21 ?_
      refine lv_iload_n hx hb dX4_movesTo_24 rfl (lv_at hl 1 rfl) ?_
      refine va_iald hx hb hK hP 3 0 rfl rfl (i := p1) (by first | assumption | exact zin_a (by assumption) (by assumption) (by assumption) | exact zin_c (by assumption) (by assumption) (by assumption) | exact zin_c (by assumption) (by assumption) (by decide) | exact zin_e (by assumption) (by assumption) (by decide) | exact zin_e (by assumption) (by assumption) (by assumption) | exact zin_f (by assumption) (by assumption) (by assumption)) dX4_movesTo_25 ?_
      refine lv_istore_n (lv' := [(2, .int (fi (p1).toNatClampNeg)), (0, .ref rw), (1, .int p1)]) hx hb dX4_movesTo_26 rfl hl (by decide) rfl (fun ls hl => ?_)
      refine lv_aload_n hx hb dX4_movesTo_27 rfl (lv_at hl 1 rfl) ?_
      refine va_get (D := (dC, dI)) (ci := 4) (v := .ref ca) (C := RX4) (T := TX4) (N := 2) hx hb hts iX4_movesTo_X4 hown hK hP 0 rfl rfl 0 (by decide) (hts _ kX4_movesTo_1) (fun _ h9 => h9) rfl dX4_movesTo_28 ?_
      refine va_get (D := (dC, dI)) (ci := 0) (v := .ref cs) (C := RX0) (T := TX0) (N := 5) hx hb hts iX4_movesTo_X0 hown hK hP 1 rfl rfl 2 (by decide) (hts _ kX4_movesTo_5) (fun _ h9 => h9) rfl dX4_movesTo_31 ?_
      refine lv_iload_n hx hb dX4_movesTo_34 rfl (lv_at hl 2 rfl) ?_
      refine va_iald hx hb hK hP 4 0 rfl rfl (i := p1) (by first | assumption | exact zin_a (by assumption) (by assumption) (by assumption) | exact zin_c (by assumption) (by assumption) (by assumption) | exact zin_c (by assumption) (by assumption) (by decide) | exact zin_e (by assumption) (by assumption) (by decide) | exact zin_e (by assumption) (by assumption) (by assumption) | exact zin_f (by assumption) (by assumption) (by assumption)) dX4_movesTo_35 ?_
      refine lv_istore_n (lv' := [(3, .int (se (p1).toNatClampNeg)), (2, .int (fi (p1).toNatClampNeg)), (0, .ref rw), (1, .int p1)]) hx hb dX4_movesTo_36 rfl hl (by decide) rfl (fun ls hl => ?_)
      refine lv_aload_n hx hb dX4_movesTo_37 rfl (lv_at hl 2 rfl) ?_
      refine va_get (D := (dC, dI)) (ci := 4) (v := .ref ca) (C := RX4) (T := TX4) (N := 2) hx hb hts iX4_movesTo_X4 hown hK hP 0 rfl rfl 0 (by decide) (hts _ kX4_movesTo_1) (fun _ h9 => h9) rfl dX4_movesTo_38 ?_
      refine va_get (D := (dC, dI)) (ci := 0) (v := .ref ct) (C := RX0) (T := TX0) (N := 5) hx hb hts iX4_movesTo_X0 hown hK hP 1 rfl rfl 3 (by decide) (hts _ kX4_movesTo_6) (fun _ h9 => h9) rfl dX4_movesTo_41 ?_
      refine lv_iload_n hx hb dX4_movesTo_44 rfl (lv_at hl 3 rfl) ?_
      refine va_iald hx hb hK hP 5 0 rfl rfl (i := p1) (by first | assumption | exact zin_a (by assumption) (by assumption) (by assumption) | exact zin_c (by assumption) (by assumption) (by assumption) | exact zin_c (by assumption) (by assumption) (by decide) | exact zin_e (by assumption) (by assumption) (by decide) | exact zin_e (by assumption) (by assumption) (by assumption) | exact zin_f (by assumption) (by assumption) (by assumption)) dX4_movesTo_45 ?_
      refine lv_istore (lv' := [(4, .int (th (p1).toNatClampNeg)), (3, .int (se (p1).toNatClampNeg)), (2, .int (fi (p1).toNatClampNeg)), (0, .ref rw), (1, .int p1)]) hx hb dX4_movesTo_46 hl (by decide) rfl (fun ls hl => ?_)
      refine lv_aload_n hx hb dX4_movesTo_48 rfl (lv_at hl 3 rfl) ?_
      refine va_get (D := (dC, dI)) (ci := 4) (v := .ref ca) (C := RX4) (T := TX4) (N := 2) hx hb hts iX4_movesTo_X4 hown hK hP 0 rfl rfl 0 (by decide) (hts _ kX4_movesTo_1) (fun _ h9 => h9) rfl dX4_movesTo_49 ?_
      refine va_get (D := (dC, dI)) (ci := 0) (v := .ref ck) (C := RX0) (T := TX0) (N := 5) hx hb hts iX4_movesTo_X0 hown hK hP 1 rfl rfl 0 (by decide) (hts _ kX4_movesTo_7) (fun _ h9 => h9) rfl dX4_movesTo_52 ?_
      refine lv_iload_n hx hb dX4_movesTo_55 rfl (lv_at hl 4 rfl) ?_
      refine va_iald hx hb hK hP 2 0 rfl rfl (i := p1) (by first | assumption | exact zin_a (by assumption) (by assumption) (by assumption) | exact zin_c (by assumption) (by assumption) (by assumption) | exact zin_c (by assumption) (by assumption) (by decide) | exact zin_e (by assumption) (by assumption) (by decide) | exact zin_e (by assumption) (by assumption) (by assumption) | exact zin_f (by assumption) (by assumption) (by assumption)) dX4_movesTo_56 ?_
      by_cases c_3 : (ki (p1).toNatClampNeg) = (0 : Int32)
      · refine lv_tableIn (off := 71) (tgt := 128) hx hb dX4_movesTo_57 (by rw [c_3]; decide) (by rw [c_3]; decide) (by rw [c_3]; decide) (by decide) ?_
        refine lv_aload_n hx hb dX4_movesTo_128 rfl (lv_at hl 3 rfl) ?_
        refine lv_iload_n hx hb dX4_movesTo_129 rfl (lv_at hl 2 rfl) ?_
        refine zcSi (va_runV (As := [.int (fi (p1).toNatClampNeg)]) (rest := []) ⟨hx, hb, hml, hown, hts⟩ (c_X4_toHaveOn l dC dI cI cJ rw sg ca lg s.heap.size on il ba (fi (p1).toNatClampNeg) ) (cwV 1 hts gX4_movesTo_X4_toHaveOn rfl rfl rfl (by decide +kernel) ⟨Nat.le_of_ble_eq_true rfl, Nat.le_of_ble_eq_true rfl⟩) (zpV hK hP hD hS hA hG [0, 6] (by decide) rfl 4 0 rfl rfl) rfl rfl hl.1 rfl (lv_room (Nat.le_of_ble_eq_true rfl)) dX4_movesTo_130 ⟨Nat.le_of_ble_eq_true rfl, Nat.le_of_ble_eq_true rfl⟩) ?_
        refine lv_aload_n hx hb dX4_movesTo_133 rfl (lv_at hl 3 rfl) ?_
        refine lv_iload_n hx hb dX4_movesTo_134 rfl (lv_at hl 1 rfl) ?_
        refine zcSi (va_runV (As := [.int (se (p1).toNatClampNeg)]) (rest := [.int (rX4_toHaveOn on il ba (fi (p1).toNatClampNeg))]) ⟨hx, hb, hml, hown, hts⟩ (c_X4_toHaveOn l dC dI cI cJ rw sg ca lg s.heap.size on il ba (se (p1).toNatClampNeg) ) (cwV 1 hts gX4_movesTo_X4_toHaveOn rfl rfl rfl (by decide +kernel) ⟨Nat.le_of_ble_eq_true rfl, Nat.le_of_ble_eq_true rfl⟩) (zpV hK hP hD hS hA hG [0, 6] (by decide) rfl 4 0 rfl rfl) rfl rfl hl.1 rfl (lv_room (Nat.le_of_ble_eq_true rfl)) dX4_movesTo_135 ⟨Nat.le_of_ble_eq_true rfl, Nat.le_of_ble_eq_true rfl⟩) ?_
        refine lv_iadd hx hb dX4_movesTo_138 ?_
        refine lv_aload_n hx hb dX4_movesTo_139 rfl (lv_at hl 3 rfl) ?_
        refine lv_iload_n hx hb dX4_movesTo_140 rfl (lv_at hl 2 rfl) ?_
        refine lv_iload hx hb dX4_movesTo_141 (lv_at hl 0 rfl) ?_
        refine zcSi (va_runV (As := [.int (fi (p1).toNatClampNeg), .int (th (p1).toNatClampNeg)]) (rest := [.int ((rX4_toHaveOn on il ba (fi (p1).toNatClampNeg)) + (rX4_toHaveOn on il ba (se (p1).toNatClampNeg)))]) ⟨hx, hb, hml, hown, hts⟩ (c_X4_toHear l dC dI cI cJ rw sg lg kg hg ca s.heap.size on il ba kn ho (fi (p1).toNatClampNeg) (th (p1).toNatClampNeg) (hTH _ (zin_lt (by first | assumption | exact zin_f (by assumption) (by assumption) (by assumption))))) (cwV 2 hts gX4_movesTo_X4_toHear rfl rfl rfl (by decide +kernel) ⟨Nat.le_of_ble_eq_true rfl, Nat.le_of_ble_eq_true rfl⟩) (zpV hK hP hD hS hA hG [0, 6, 7, 8, 9] (by decide) rfl 4 0 rfl rfl) rfl rfl hl.1 rfl (lv_room (Nat.le_of_ble_eq_true rfl)) dX4_movesTo_143 ⟨Nat.le_of_ble_eq_true rfl, Nat.le_of_ble_eq_true rfl⟩) ?_
        refine lv_iadd hx hb dX4_movesTo_146 ?_
        refine lv_iconst (v := 1) hx hb dX4_movesTo_147 (by decide) ?_
        refine lv_iadd hx hb dX4_movesTo_148 ?_
        exact W.iret (v := ((((rX4_toHaveOn on il ba (fi (p1).toNatClampNeg)) + (rX4_toHaveOn on il ba (se (p1).toNatClampNeg))) + (rX4_toHear on il ba kn ho (fi (p1).toNatClampNeg) (th (p1).toNatClampNeg))) + (1 : Int32))) hx hb hr (fun t ht hW => ⟨_, rfl, (by unfold rX4_movesTo; rw [if_neg c_1, if_pos c_2, if_pos c_3]), ht⟩) (fun q hq => absurd hq List.not_mem_nil) dX4_movesTo_149
      · by_cases c_4 : (ki (p1).toNatClampNeg) = (1 : Int32)
        · refine lv_tableIn (off := 93) (tgt := 150) hx hb dX4_movesTo_57 (by rw [c_4]; decide) (by rw [c_4]; decide) (by rw [c_4]; decide) (by decide) ?_
          refine lv_aload_n hx hb dX4_movesTo_150 rfl (lv_at hl 3 rfl) ?_
          refine lv_iload_n hx hb dX4_movesTo_151 rfl (lv_at hl 2 rfl) ?_
          refine zcSi (va_runV (As := [.int (fi (p1).toNatClampNeg)]) (rest := []) ⟨hx, hb, hml, hown, hts⟩ (c_X4_toHaveOn l dC dI cI cJ rw sg ca lg s.heap.size on il ba (fi (p1).toNatClampNeg) ) (cwV 1 hts gX4_movesTo_X4_toHaveOn rfl rfl rfl (by decide +kernel) ⟨Nat.le_of_ble_eq_true rfl, Nat.le_of_ble_eq_true rfl⟩) (zpV hK hP hD hS hA hG [0, 6] (by decide) rfl 4 0 rfl rfl) rfl rfl hl.1 rfl (lv_room (Nat.le_of_ble_eq_true rfl)) dX4_movesTo_152 ⟨Nat.le_of_ble_eq_true rfl, Nat.le_of_ble_eq_true rfl⟩) ?_
          refine lv_aload_n hx hb dX4_movesTo_155 rfl (lv_at hl 3 rfl) ?_
          refine lv_iload_n hx hb dX4_movesTo_156 rfl (lv_at hl 1 rfl) ?_
          refine zcSi (va_runV (As := [.int (se (p1).toNatClampNeg)]) (rest := [.int (rX4_toHaveOn on il ba (fi (p1).toNatClampNeg))]) ⟨hx, hb, hml, hown, hts⟩ (c_X4_toHaveOn l dC dI cI cJ rw sg ca lg s.heap.size on il ba (se (p1).toNatClampNeg) ) (cwV 1 hts gX4_movesTo_X4_toHaveOn rfl rfl rfl (by decide +kernel) ⟨Nat.le_of_ble_eq_true rfl, Nat.le_of_ble_eq_true rfl⟩) (zpV hK hP hD hS hA hG [0, 6] (by decide) rfl 4 0 rfl rfl) rfl rfl hl.1 rfl (lv_room (Nat.le_of_ble_eq_true rfl)) dX4_movesTo_157 ⟨Nat.le_of_ble_eq_true rfl, Nat.le_of_ble_eq_true rfl⟩) ?_
          refine lv_iadd hx hb dX4_movesTo_160 ?_
          refine lv_aload_n hx hb dX4_movesTo_161 rfl (lv_at hl 3 rfl) ?_
          refine lv_iload_n hx hb dX4_movesTo_162 rfl (lv_at hl 2 rfl) ?_
          refine lv_iload_n hx hb dX4_movesTo_163 rfl (lv_at hl 1 rfl) ?_
          refine lv_iload hx hb dX4_movesTo_164 (lv_at hl 0 rfl) ?_
          refine zcSi (va_runV (As := [.int (fi (p1).toNatClampNeg), .int (se (p1).toNatClampNeg), .int (th (p1).toNatClampNeg)]) (rest := [.int ((rX4_toHaveOn on il ba (fi (p1).toNatClampNeg)) + (rX4_toHaveOn on il ba (se (p1).toNatClampNeg)))]) ⟨hx, hb, hml, hown, hts⟩ (c_X4_toGet l dC dI cI cJ rw sg lg kg hg ca s.heap.size on il ba kn ho (fi (p1).toNatClampNeg) (se (p1).toNatClampNeg) (th (p1).toNatClampNeg) (hTH _ (zin_lt (by first | assumption | exact zin_f (by assumption) (by assumption) (by assumption))))) (cwV 3 hts gX4_movesTo_X4_toGet rfl rfl rfl (by decide +kernel) ⟨Nat.le_of_ble_eq_true rfl, Nat.le_of_ble_eq_true rfl⟩) (zpV hK hP hD hS hA hG [0, 6, 7, 8, 9] (by decide) rfl 4 0 rfl rfl) rfl rfl hl.1 rfl (lv_room (Nat.le_of_ble_eq_true rfl)) dX4_movesTo_166 ⟨Nat.le_of_ble_eq_true rfl, Nat.le_of_ble_eq_true rfl⟩) ?_
          refine lv_iadd hx hb dX4_movesTo_169 ?_
          refine lv_iconst (v := 1) hx hb dX4_movesTo_170 (by decide) ?_
          refine lv_iadd hx hb dX4_movesTo_171 ?_
          exact W.iret (v := ((((rX4_toHaveOn on il ba (fi (p1).toNatClampNeg)) + (rX4_toHaveOn on il ba (se (p1).toNatClampNeg))) + (rX4_toGet on il ba kn ho (fi (p1).toNatClampNeg) (se (p1).toNatClampNeg) (th (p1).toNatClampNeg))) + (1 : Int32))) hx hb hr (fun t ht hW => ⟨_, rfl, (by unfold rX4_movesTo; rw [if_neg c_1, if_pos c_2, if_neg c_3, if_pos c_4]), ht⟩) (fun q hq => absurd hq List.not_mem_nil) dX4_movesTo_172
        · by_cases c_5 : (ki (p1).toNatClampNeg) = (2 : Int32)
          · refine lv_tableIn (off := 31) (tgt := 88) hx hb dX4_movesTo_57 (by rw [c_5]; decide) (by rw [c_5]; decide) (by rw [c_5]; decide) (by decide) ?_
            refine lv_aload_n hx hb dX4_movesTo_88 rfl (lv_at hl 3 rfl) ?_
            refine va_get (D := (dC, dI)) (ci := 4) (v := .ref sg) (C := RX4) (T := TX4) (N := 2) hx hb hts iX4_movesTo_X4 hown hK hP 0 rfl rfl 1 (by decide) (hts _ kX4_movesTo_8) (fun _ h9 => h9) rfl dX4_movesTo_89 ?_
            refine va_get (D := (dC, dI)) (ci := 5) (v := .int on) (C := RX5) (T := TX5) (N := 4) hx hb hts iX4_movesTo_X5 hown hK hP 6 rfl rfl 1 (by decide) (hts _ kX4_movesTo_10) (fun _ h9 => h9) rfl dX4_movesTo_92 ?_
            refine lv_iload_n hx hb dX4_movesTo_95 rfl (lv_at hl 2 rfl) ?_
            refine zcSi (va_runSN (As := [.int on, .int (fi (p1).toNatClampNeg)]) (rest := []) ⟨hx, hb, hml, hown, hts⟩ (c_X7_isIn l dC dI cI cJ s.heap.size on (fi (p1).toNatClampNeg) ) ⟨va_cnB 2 hts gX4_movesTo_X7_isIn_n43 rfl rfl rfl (hG.1.1 _ (List.mem_of_getElem? (i := 5) rfl)) (hts _ kX4_movesTo_11) (by decide +kernel) ⟨Nat.le_of_ble_eq_true rfl, Nat.le_of_ble_eq_true rfl⟩, (hts _ kX4_movesTo_12), trivial⟩ (zpS hK hP hD hS hA hG [] (by decide) rfl) rfl rfl hl.1 rfl (lv_room (Nat.le_of_ble_eq_true rfl)) dX4_movesTo_96 ⟨Nat.le_of_ble_eq_true rfl, Nat.le_of_ble_eq_true rfl⟩) ?_
            refine lv_if_eq (tgt := 106) hx hb dX4_movesTo_99 (by decide) (fun c_6 => ?_) (fun c_6 => ?_)
            · refine lv_iconst (v := 1) hx hb dX4_movesTo_106 (by decide) ?_
              exact W.iret (v := (1 : Int32)) hx hb hr (fun t ht hW => ⟨_, rfl, (by unfold rX4_movesTo; rw [if_neg c_1, if_pos c_2, if_neg c_3, if_neg c_4, if_pos c_5, if_pos c_6]), ht⟩) (fun q hq => absurd hq List.not_mem_nil) dX4_movesTo_107
            · refine lv_iconst (v := 2) hx hb dX4_movesTo_102 (by decide) ?_
              refine lv_goto (tgt := 107) hx hb dX4_movesTo_103 (by decide) ?_
              exact W.iret (v := (2 : Int32)) hx hb hr (fun t ht hW => ⟨_, rfl, (by unfold rX4_movesTo; rw [if_neg c_1, if_pos c_2, if_neg c_3, if_neg c_4, if_pos c_5, if_neg c_6]), ht⟩) (fun q hq => absurd hq List.not_mem_nil) dX4_movesTo_107
          · by_cases c_7 : (ki (p1).toNatClampNeg) = (3 : Int32)
            · refine lv_tableIn (off := 51) (tgt := 108) hx hb dX4_movesTo_57 (by rw [c_7]; decide) (by rw [c_7]; decide) (by rw [c_7]; decide) (by decide) ?_
              refine lv_aload_n hx hb dX4_movesTo_108 rfl (lv_at hl 3 rfl) ?_
              refine va_get (D := (dC, dI)) (ci := 4) (v := .ref sg) (C := RX4) (T := TX4) (N := 2) hx hb hts iX4_movesTo_X4 hown hK hP 0 rfl rfl 1 (by decide) (hts _ kX4_movesTo_8) (fun _ h9 => h9) rfl dX4_movesTo_109 ?_
              refine va_get (D := (dC, dI)) (ci := 5) (v := .int on) (C := RX5) (T := TX5) (N := 4) hx hb hts iX4_movesTo_X5 hown hK hP 6 rfl rfl 1 (by decide) (hts _ kX4_movesTo_10) (fun _ h9 => h9) rfl dX4_movesTo_112 ?_
              refine lv_iload_n hx hb dX4_movesTo_115 rfl (lv_at hl 2 rfl) ?_
              refine zcSi (va_runSN (As := [.int on, .int (fi (p1).toNatClampNeg)]) (rest := []) ⟨hx, hb, hml, hown, hts⟩ (c_X7_isIn l dC dI cI cJ s.heap.size on (fi (p1).toNatClampNeg) ) ⟨va_cnB 2 hts gX4_movesTo_X7_isIn_n43 rfl rfl rfl (hG.1.1 _ (List.mem_of_getElem? (i := 5) rfl)) (hts _ kX4_movesTo_11) (by decide +kernel) ⟨Nat.le_of_ble_eq_true rfl, Nat.le_of_ble_eq_true rfl⟩, (hts _ kX4_movesTo_12), trivial⟩ (zpS hK hP hD hS hA hG [] (by decide) rfl) rfl rfl hl.1 rfl (lv_room (Nat.le_of_ble_eq_true rfl)) dX4_movesTo_116 ⟨Nat.le_of_ble_eq_true rfl, Nat.le_of_ble_eq_true rfl⟩) ?_
              refine lv_if_eq (tgt := 126) hx hb dX4_movesTo_119 (by decide) (fun c_8 => ?_) (fun c_8 => ?_)
              · refine lv_iconst (v := 2) hx hb dX4_movesTo_126 (by decide) ?_
                exact W.iret (v := (2 : Int32)) hx hb hr (fun t ht hW => ⟨_, rfl, (by unfold rX4_movesTo; rw [if_neg c_1, if_pos c_2, if_neg c_3, if_neg c_4, if_neg c_5, if_pos c_7, if_pos c_8]), ht⟩) (fun q hq => absurd hq List.not_mem_nil) dX4_movesTo_127
              · refine lv_iconst (v := 1) hx hb dX4_movesTo_122 (by decide) ?_
                refine lv_goto (tgt := 127) hx hb dX4_movesTo_123 (by decide) ?_
                exact W.iret (v := (1 : Int32)) hx hb hr (fun t ht hW => ⟨_, rfl, (by unfold rX4_movesTo; rw [if_neg c_1, if_pos c_2, if_neg c_3, if_neg c_4, if_neg c_5, if_pos c_7, if_neg c_8]), ht⟩) (fun q hq => absurd hq List.not_mem_nil) dX4_movesTo_127
            · refine lv_tableOut (tgt := 173) hx hb dX4_movesTo_57 (zOut0_3 c_3 c_4 c_5 c_7) (by decide) ?_
              refine lv_aload_n hx hb dX4_movesTo_173 rfl (lv_at hl 3 rfl) ?_
              refine lv_iload_n hx hb dX4_movesTo_174 rfl (lv_at hl 2 rfl) ?_
              refine zcSi (va_runV (As := [.int (fi (p1).toNatClampNeg)]) (rest := []) ⟨hx, hb, hml, hown, hts⟩ (c_X4_toHaveOn l dC dI cI cJ rw sg ca lg s.heap.size on il ba (fi (p1).toNatClampNeg) ) (cwV 1 hts gX4_movesTo_X4_toHaveOn rfl rfl rfl (by decide +kernel) ⟨Nat.le_of_ble_eq_true rfl, Nat.le_of_ble_eq_true rfl⟩) (zpV hK hP hD hS hA hG [0, 6] (by decide) rfl 4 0 rfl rfl) rfl rfl hl.1 rfl (lv_room (Nat.le_of_ble_eq_true rfl)) dX4_movesTo_175 ⟨Nat.le_of_ble_eq_true rfl, Nat.le_of_ble_eq_true rfl⟩) ?_
              refine lv_aload_n hx hb dX4_movesTo_178 rfl (lv_at hl 3 rfl) ?_
              refine lv_iload_n hx hb dX4_movesTo_179 rfl (lv_at hl 1 rfl) ?_
              refine zcSi (va_runV (As := [.int (se (p1).toNatClampNeg)]) (rest := [.int (rX4_toHaveOn on il ba (fi (p1).toNatClampNeg))]) ⟨hx, hb, hml, hown, hts⟩ (c_X4_toHaveOn l dC dI cI cJ rw sg ca lg s.heap.size on il ba (se (p1).toNatClampNeg) ) (cwV 1 hts gX4_movesTo_X4_toHaveOn rfl rfl rfl (by decide +kernel) ⟨Nat.le_of_ble_eq_true rfl, Nat.le_of_ble_eq_true rfl⟩) (zpV hK hP hD hS hA hG [0, 6] (by decide) rfl 4 0 rfl rfl) rfl rfl hl.1 rfl (lv_room (Nat.le_of_ble_eq_true rfl)) dX4_movesTo_180 ⟨Nat.le_of_ble_eq_true rfl, Nat.le_of_ble_eq_true rfl⟩) ?_
              refine lv_iadd hx hb dX4_movesTo_183 ?_
              refine lv_iconst (v := 1) hx hb dX4_movesTo_184 (by decide) ?_
              refine lv_iadd hx hb dX4_movesTo_185 ?_
              exact W.iret (v := (((rX4_toHaveOn on il ba (fi (p1).toNatClampNeg)) + (rX4_toHaveOn on il ba (se (p1).toNatClampNeg))) + (1 : Int32))) hx hb hr (fun t ht hW => ⟨_, rfl, (by unfold rX4_movesTo; rw [if_neg c_1, if_pos c_2, if_neg c_3, if_neg c_4, if_neg c_5, if_neg c_7]), ht⟩) (fun q hq => absurd hq List.not_mem_nil) dX4_movesTo_186
    · refine lv_iconst (v := -1) hx hb dX4_movesTo_15 (by decide) ?_
      exact W.iret (v := (-1 : Int32)) hx hb hr (fun t ht hW => ⟨_, rfl, (by unfold rX4_movesTo; rw [if_neg c_1, if_neg c_2]), ht⟩) (fun q hq => absurd hq List.not_mem_nil) dX4_movesTo_16
