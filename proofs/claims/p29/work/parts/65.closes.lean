/-! L_closes -/
def jL_closes_198_0 (vk : Nat → Int32) (vh : Nat → Int32) (vc : Nat → Int32) (vg : Nat → Int32) (p1 : Int32) (th2 : Nat → Int32) (wh2 : Nat → Int32) (n1 : Int32) (by1 : Int32) (m1 : Int32) : Int32 := (if by1 = 0 then (if (th2 ((((4 : Int32) * m1) + ((vc (n1).toNatClampNeg) / (512 : Int32)))).toNatClampNeg) = (1 : Int32) then (if (rL_isIn (vg ((1 : Int32)).toNatClampNeg) m1) = 0 then (1 : Int32) else (0 : Int32)) else (0 : Int32)) else (1 : Int32))
theorem bjL_closes_198_0 (vk : Nat → Int32) (vh : Nat → Int32) (vc : Nat → Int32) (vg : Nat → Int32) (p1 : Int32) (th2 : Nat → Int32) (wh2 : Nat → Int32) (n1 : Int32) (by1 : Int32) (m1 : Int32) : jL_closes_198_0 vk vh vc vg p1 th2 wh2 n1 by1 m1 = 0 ∨ jL_closes_198_0 vk vh vc vg p1 th2 wh2 n1 by1 m1 = 1 := by
  unfold jL_closes_198_0
  repeat' split
  all_goals first | exact Or.inl rfl | exact Or.inr rfl
def jL_closes_268_0 (vk : Nat → Int32) (vh : Nat → Int32) (vc : Nat → Int32) (vg : Nat → Int32) (p1 : Int32) (th2 : Nat → Int32) (wh2 : Nat → Int32) (n1 : Int32) (by2 : Int32) (m2 : Int32) : Int32 := (if by2 = 0 then (0 : Int32) else (if (zRem (vc (m2).toNatClampNeg) (8 : Int32)) = 0 then (if (zRem ((vc (m2).toNatClampNeg) / (64 : Int32)) (8 : Int32)) = (zRem ((vc (n1).toNatClampNeg) / (8 : Int32)) (8 : Int32)) then (if ((vc (m2).toNatClampNeg) / (512 : Int32)) = ((vc (n1).toNatClampNeg) / (512 : Int32)) then (0 : Int32) else (1 : Int32)) else (1 : Int32)) else (1 : Int32)))
theorem bjL_closes_268_0 (vk : Nat → Int32) (vh : Nat → Int32) (vc : Nat → Int32) (vg : Nat → Int32) (p1 : Int32) (th2 : Nat → Int32) (wh2 : Nat → Int32) (n1 : Int32) (by2 : Int32) (m2 : Int32) : jL_closes_268_0 vk vh vc vg p1 th2 wh2 n1 by2 m2 = 0 ∨ jL_closes_268_0 vk vh vc vg p1 th2 wh2 n1 by2 m2 = 1 := by
  unfold jL_closes_268_0
  repeat' split
  all_goals first | exact Or.inl rfl | exact Or.inr rfl
def lL_closes_14_th1 (vk : Nat → Int32) (vh : Nat → Int32) (vc : Nat → Int32) (vg : Nat → Int32) (p1 : Int32) : Nat → (Nat → Int32) → (Nat → Int32) → (Int32) → (Nat → Int32)
  | 0, th1, wh1, i1 => th1
  | n14 + 1, th1, wh1, i1 => (if (24 : Int32) ≤ i1 then th1 else (lL_closes_14_th1 vk vh vc vg p1 n14 (upd th1 (i1).toNatClampNeg (vk (((24 : Int32) + i1)).toNatClampNeg)) (upd wh1 ((zRem i1 (4 : Int32))).toNatClampNeg (vh (((4 : Int32) + (zRem i1 (4 : Int32)))).toNatClampNeg)) (i1 + 1)))
def lL_closes_14_wh1 (vk : Nat → Int32) (vh : Nat → Int32) (vc : Nat → Int32) (vg : Nat → Int32) (p1 : Int32) : Nat → (Nat → Int32) → (Nat → Int32) → (Int32) → (Nat → Int32)
  | 0, th1, wh1, i1 => wh1
  | n14 + 1, th1, wh1, i1 => (if (24 : Int32) ≤ i1 then wh1 else (lL_closes_14_wh1 vk vh vc vg p1 n14 (upd th1 (i1).toNatClampNeg (vk (((24 : Int32) + i1)).toNatClampNeg)) (upd wh1 ((zRem i1 (4 : Int32))).toNatClampNeg (vh (((4 : Int32) + (zRem i1 (4 : Int32)))).toNatClampNeg)) (i1 + 1)))
def lL_closes_156_by1 (vk : Nat → Int32) (vh : Nat → Int32) (vc : Nat → Int32) (vg : Nat → Int32) (p1 : Int32) (th2 : Nat → Int32) (wh2 : Nat → Int32) (n1 : Int32) : Nat → (Int32) → (Int32) → (Int32)
  | 0, by1, m1 => by1
  | n156 + 1, by1, m1 => (if (6 : Int32) ≤ m1 then by1 else (lL_closes_156_by1 vk vh vc vg p1 th2 wh2 n1 n156 (jL_closes_198_0 vk vh vc vg p1 th2 wh2 n1 by1 m1) (m1 + 1)))
def lL_closes_212_by2 (vk : Nat → Int32) (vh : Nat → Int32) (vc : Nat → Int32) (vg : Nat → Int32) (p1 : Int32) (th2 : Nat → Int32) (wh2 : Nat → Int32) (n1 : Int32) : Nat → (Int32) → (Int32) → (Int32)
  | 0, by2, m2 => by2
  | n212 + 1, by2, m2 => (if (vg ((0 : Int32)).toNatClampNeg) ≤ m2 then by2 else (lL_closes_212_by2 vk vh vc vg p1 th2 wh2 n1 n212 (jL_closes_268_0 vk vh vc vg p1 th2 wh2 n1 by2 m2) (m2 + 1)))
def qL_closes_378_r (vk : Nat → Int32) (vh : Nat → Int32) (vc : Nat → Int32) (vg : Nat → Int32) (p1 : Int32) (th2 : Nat → Int32) (wh2 : Nat → Int32) (n1 : Int32) (kq58 : (Nat → Int32) → (Nat → Int32) → (Int32) → Int32) : Int32 := (kq58 th2 (upd wh2 (((vc (n1).toNatClampNeg) / (512 : Int32))).toNatClampNeg ((zRem ((vc (n1).toNatClampNeg) / (64 : Int32)) (8 : Int32)) + (1 : Int32))) (n1 + 1))
def qL_closes_321_r (vk : Nat → Int32) (vh : Nat → Int32) (vc : Nat → Int32) (vg : Nat → Int32) (p1 : Int32) (th2 : Nat → Int32) (wh2 : Nat → Int32) (n1 : Int32) (kq58 : (Nat → Int32) → (Nat → Int32) → (Int32) → Int32) : Int32 := (kq58 (upd (upd th2 ((((4 : Int32) * (zRem ((vc (n1).toNatClampNeg) / (8 : Int32)) (8 : Int32))) + ((vc (n1).toNatClampNeg) / (512 : Int32)))).toNatClampNeg (1 : Int32)) ((((4 : Int32) * (zRem ((vc (n1).toNatClampNeg) / (64 : Int32)) (8 : Int32))) + ((vc (n1).toNatClampNeg) / (512 : Int32)))).toNatClampNeg (1 : Int32)) wh2 (n1 + 1))
def qL_closes_145_r (vk : Nat → Int32) (vh : Nat → Int32) (vc : Nat → Int32) (vg : Nat → Int32) (p1 : Int32) (th2 : Nat → Int32) (wh2 : Nat → Int32) (n1 : Int32) (kq58 : (Nat → Int32) → (Nat → Int32) → (Int32) → Int32) : Int32 := (if (zRem (vc (n1).toNatClampNeg) (8 : Int32)) = 0 then (if (rL_isIn (vg ((2 : Int32)).toNatClampNeg) ((vc (n1).toNatClampNeg) / (512 : Int32))) = 0 then (if (th2 ((((4 : Int32) * (zRem ((vc (n1).toNatClampNeg) / (64 : Int32)) (8 : Int32))) + ((vc (n1).toNatClampNeg) / (512 : Int32)))).toNatClampNeg) = (1 : Int32) then (0 : Int32) else (if (th2 ((((4 : Int32) * (zRem ((vc (n1).toNatClampNeg) / (8 : Int32)) (8 : Int32))) + ((vc (n1).toNatClampNeg) / (512 : Int32)))).toNatClampNeg) = 0 then (if (lL_closes_212_by2 vk vh vc vg p1 th2 wh2 n1 14 (lL_closes_156_by1 vk vh vc vg p1 th2 wh2 n1 7 (0 : Int32) (0 : Int32)) (n1 + (1 : Int32))) = 0 then (0 : Int32) else (qL_closes_321_r vk vh vc vg p1 th2 wh2 n1 kq58)) else (qL_closes_321_r vk vh vc vg p1 th2 wh2 n1 kq58))) else (0 : Int32)) else (if (zRem (vc (n1).toNatClampNeg) (8 : Int32)) = (1 : Int32) then (if (wh2 (((vc (n1).toNatClampNeg) / (512 : Int32))).toNatClampNeg) ≤ 0 then (qL_closes_378_r vk vh vc vg p1 th2 wh2 n1 kq58) else (if (rL_isIn (vg ((1 : Int32)).toNatClampNeg) ((wh2 (((vc (n1).toNatClampNeg) / (512 : Int32))).toNatClampNeg) - (1 : Int32))) = 0 then (qL_closes_378_r vk vh vc vg p1 th2 wh2 n1 kq58) else (0 : Int32))) else (kq58 th2 wh2 (n1 + 1))))
def lL_closes_58_r (vk : Nat → Int32) (vh : Nat → Int32) (vc : Nat → Int32) (vg : Nat → Int32) (p1 : Int32) : Nat → (Nat → Int32) → (Nat → Int32) → (Int32) → (Int32)
  | 0, _, _, _ => 0
  | n58 + 1, th2, wh2, n1 => (if (vg ((0 : Int32)).toNatClampNeg) ≤ n1 then (1 : Int32) else (if (rL_isIn (vg ((1 : Int32)).toNatClampNeg) (zRem ((vc (n1).toNatClampNeg) / (8 : Int32)) (8 : Int32))) = 0 then (if (rL_isIn (vg ((1 : Int32)).toNatClampNeg) (zRem ((vc (n1).toNatClampNeg) / (64 : Int32)) (8 : Int32))) = 0 then (qL_closes_145_r vk vh vc vg p1 th2 wh2 n1 (fun th2 wh2 n1 => lL_closes_58_r vk vh vc vg p1 n58 th2 wh2 n1)) else (if (zRem (vc (n1).toNatClampNeg) (8 : Int32)) = (2 : Int32) then (qL_closes_145_r vk vh vc vg p1 th2 wh2 n1 (fun th2 wh2 n1 => lL_closes_58_r vk vh vc vg p1 n58 th2 wh2 n1)) else (if (zRem (vc (n1).toNatClampNeg) (8 : Int32)) = (3 : Int32) then (qL_closes_145_r vk vh vc vg p1 th2 wh2 n1 (fun th2 wh2 n1 => lL_closes_58_r vk vh vc vg p1 n58 th2 wh2 n1)) else (0 : Int32)))) else (0 : Int32)))
def rL_closes (vk : Nat → Int32) (vh : Nat → Int32) (vc : Nat → Int32) (vg : Nat → Int32) (p1 : Int32) : Int32 := (lL_closes_58_r vk vh vc vg p1 14 (lL_closes_14_th1 vk vh vc vg p1 25 (fun _ => (0 : Int32)) (fun _ => (0 : Int32)) (0 : Int32)) (lL_closes_14_wh1 vk vh vc vg p1 25 (fun _ => (0 : Int32)) (fun _ => (0 : Int32)) (0 : Int32)) p1)
set_option maxRecDepth 20000 in
theorem kL_closes_0 : Cond.arrayClass .int ∈ wsL_closes := by decide +kernel
set_option maxHeartbeats 5480000 in
set_option maxRecDepth 100000 in
theorem c_L_closes (l : Launch) (hfl : l.stackTraces = false) (dC : Nat → ClassId) (dI : Nat → Nat → Nat) (cI cJ : ClassId) (ak ah ac ag : Nat) (sz : Nat) (vk : Nat → Int32) (vh : Nat → Int32) (vc : Nat → Int32) (vg : Nat → Int32) (p1 : Int32) (hC : ∀ j : Nat, j < 12 → zCg (vc j)) (hg0 : (vg ((0 : Int32)).toNatClampNeg).toInt ≤ 12) (hf0 : 0 ≤ p1.toInt) : Met l yL_closes wsL_closes ({ frames := 1, cells := 2, slots := 28, locals := 21 }) (va_Pc [.ref ak, .ref ah, .ref ac, .ref ag, .int p1] (zI (dC, dI) [(cI, .int), (cJ, .long)] [(ak, .inl (cI, 49, .inl vk)), (ah, .inl (cI, 9, .inl vh)), (ac, .inl (cI, 13, .inl vc)), (ag, .inl (cI, 13, .inl vg))] sz)) (va_Qi (fun (r : Int32) (u : Unit) => r = rL_closes vk vh vc vg p1) (fun u => zO (dC, dI) [(cI, .int), (cJ, .long)] [(ak, .inl (cI, 49, .inl vk)), (ah, .inl (cI, 9, .inl vh)), (ac, .inl (cI, 13, .inl vc)), (ag, .inl (cI, 13, .inl vg))] (va_A [(ak, .inl (cI, 49, .inl vk)), (ah, .inl (cI, 9, .inl vh)), (ac, .inl (cI, 13, .inl vc)), (ag, .inl (cI, 13, .inl vg))] sz)) (va_A [(ak, .inl (cI, 49, .inl vk)), (ah, .inl (cI, 9, .inl vh)), (ac, .inl (cI, 13, .inl vc)), (ag, .inl (cI, 13, .inl vg))] sz)) 2 28 (va_A [(ak, .inl (cI, 49, .inl vk)), (ah, .inl (cI, 9, .inl vh)), (ac, .inl (cI, 13, .inl vc)), (ag, .inl (cI, 13, .inl vg))] sz) := by
  refine Met.ofW (cc := cL_closes) (maxL := 14) (ret := (some .boolean)) (by decide) rfl ?_
  intro p e s m args below meth c s₁ B hml hv
  obtain ⟨rfl, hsz, hP, hK, hD0, hG⟩ := hv
  have hx := B.exec
  have hb := B.bytes
  have hr := B.returns
  have hts := atoms_spec (ws := wsL_closes) B.pre
  have hown : s.vm.findClass RL = some m.cls := findClass_of_methodNamed B.named
  have hlocks := B.notSynchronized
  subst hsz
  have hD := hD0.self (sz := s.heap.size)
  generalize hAe : va_A [(ak, .inl (cI, 49, .inl vk)), (ah, .inl (cI, 9, .inl vh)), (ac, .inl (cI, 13, .inl vc)), (ag, .inl (cI, 13, .inl vg))] s.heap.size = A at hD hG ⊢
  have hA : ∀ q : Nat, s.heap.size ≤ q → A q := fun q h => by rw [← hAe]; exact Or.inr h
  have hS : va_S A s.heap s.heap [] := va_S.rf
  have hP : va_P (dC, dI) vwCl [(ak, .inl (cI, 49, .inl vk)), (ah, .inl (cI, 9, .inl vh)), (ac, .inl (cI, 13, .inl vc)), (ag, .inl (cI, 13, .inl vg))] s.heap := hP
  have hl := lv_entry ([.ref ak, .ref ah, .ref ac, .ref ag, .int p1]) (n := 14) (Nat.le_of_ble_eq_true rfl)
  rw [lg_entry_eq]
  generalize (lg_sl ([.ref ak, .ref ah, .ref ac, .ref ag, .int p1]) ++ List.replicate (14 - (lg_sl ([.ref ak, .ref ah, .ref ac, .ref ag, .int p1])).length) Slot.unset).toArray = ls at hl ⊢
  have hl : lv_has ls 14 [(0, .ref ak), (1, .ref ah), (2, .ref ac), (3, .ref ag), (4, .int p1)] := hl
  refine lv_bipush (v := 24) hx hb dL_closes_0 (by decide) ?_
  refine zNewI (N := 24) hx hb (hts _ kL_closes_0) hK hP hD hS hA rfl rfl (Nat.le_of_ble_eq_true rfl) (Nat.le_of_ble_eq_true rfl) (Nat.le_of_ble_eq_true rfl) dL_closes_2 (fun q1 H hP hD hS => ?_)
  refine W.widen (k := 1) (n := 24) (by decide) (by decide) ?_
  have hP : va_P (dC, dI) vwCl [(ak, .inl (cI, 49, .inl vk)), (ah, .inl (cI, 9, .inl vh)), (ac, .inl (cI, 13, .inl vc)), (ag, .inl (cI, 13, .inl vg)), (q1, .inl (cI, 24, .inl (fun _ => (0 : Int32))))] H := hP
  have hD : va_D A [(ak, .inl (cI, 49, .inl vk)), (ah, .inl (cI, 9, .inl vh)), (ac, .inl (cI, 13, .inl vc)), (ag, .inl (cI, 13, .inl vg)), (q1, .inl (cI, 24, .inl (fun _ => (0 : Int32))))] := hD
  refine lv_astore (lv' := [(5, .ref q1), (0, .ref ak), (1, .ref ah), (2, .ref ac), (3, .ref ag), (4, .int p1)]) hx hb dL_closes_4 hl (by decide) rfl (fun ls hl => ?_)
  refine lv_iconst (v := 4) hx hb dL_closes_6 (by decide) ?_
  refine zNewI (N := 4) hx hb (hts _ kL_closes_0) hK hP hD hS hA rfl rfl (Nat.le_of_ble_eq_true rfl) (Nat.le_of_ble_eq_true rfl) (Nat.le_of_ble_eq_true rfl) dL_closes_7 (fun q2 H hP hD hS => ?_)
  refine W.widen (k := 2) (n := 28) (by decide) (by decide) ?_
  have hP : va_P (dC, dI) vwCl [(ak, .inl (cI, 49, .inl vk)), (ah, .inl (cI, 9, .inl vh)), (ac, .inl (cI, 13, .inl vc)), (ag, .inl (cI, 13, .inl vg)), (q1, .inl (cI, 24, .inl (fun _ => (0 : Int32)))), (q2, .inl (cI, 4, .inl (fun _ => (0 : Int32))))] H := hP
  have hD : va_D A [(ak, .inl (cI, 49, .inl vk)), (ah, .inl (cI, 9, .inl vh)), (ac, .inl (cI, 13, .inl vc)), (ag, .inl (cI, 13, .inl vg)), (q1, .inl (cI, 24, .inl (fun _ => (0 : Int32)))), (q2, .inl (cI, 4, .inl (fun _ => (0 : Int32))))] := hD
  refine lv_astore (lv' := [(6, .ref q2), (5, .ref q1), (0, .ref ak), (1, .ref ah), (2, .ref ac), (3, .ref ag), (4, .int p1)]) hx hb dL_closes_9 hl (by decide) rfl (fun ls hl => ?_)
  refine lv_iconst (v := 0) hx hb dL_closes_11 (by decide) ?_
  refine lv_istore (lv' := [(7, .int (0 : Int32)), (6, .ref q2), (5, .ref q1), (0, .ref ak), (1, .ref ah), (2, .ref ac), (3, .ref ag), (4, .int p1)]) hx hb dL_closes_12 hl (by decide) rfl (fun ls hl => ?_)
  refine zNm (fun R9 Q9 hR9 hQ9 => ?_)
  have L14 : ∀ (n14 : Nat) (th1 : Nat → Int32) (wh1 : Nat → Int32) (i1 : Int32), 0 ≤ i1.toInt → ((24 : Int32)).toInt - i1.toInt < n14 ∧ 0 < n14 → (∀ (H : Heap) (locs : List Loc) (ls : Array Slot), va_P (dC, dI) vwCl [(ak, .inl (cI, 49, .inl vk)), (ah, .inl (cI, 9, .inl vh)), (ac, .inl (cI, 13, .inl vc)), (ag, .inl (cI, 13, .inl vg)), (q1, .inl (cI, 24, .inl (lL_closes_14_th1 vk vh vc vg p1 n14 th1 wh1 i1))), (q2, .inl (cI, 4, .inl (lL_closes_14_wh1 vk vh vc vg p1 n14 th1 wh1 i1)))] H → va_D A [(ak, .inl (cI, 49, .inl vk)), (ah, .inl (cI, 9, .inl vh)), (ac, .inl (cI, 13, .inl vc)), (ag, .inl (cI, 13, .inl vg)), (q1, .inl (cI, 24, .inl (lL_closes_14_th1 vk vh vc vg p1 n14 th1 wh1 i1))), (q2, .inl (cI, 4, .inl (lL_closes_14_wh1 vk vh vc vg p1 n14 th1 wh1 i1)))] → va_S A s.heap H locs → lv_has ls 14 [(6, .ref q2), (5, .ref q1), (0, .ref ak), (1, .ref ah), (2, .ref ac), (3, .ref ag), (4, .int p1)] → W p l e R9 s m ([.ref ak, .ref ah, .ref ac, .ref ag, .int p1] : List Value).toArray below meth c H locs 2 28 Q9 (F0 m 54 ls [])) → ∀ (H : Heap) (locs : List Loc) (ls : Array Slot), va_P (dC, dI) vwCl [(ak, .inl (cI, 49, .inl vk)), (ah, .inl (cI, 9, .inl vh)), (ac, .inl (cI, 13, .inl vc)), (ag, .inl (cI, 13, .inl vg)), (q1, .inl (cI, 24, .inl th1)), (q2, .inl (cI, 4, .inl wh1))] H → va_D A [(ak, .inl (cI, 49, .inl vk)), (ah, .inl (cI, 9, .inl vh)), (ac, .inl (cI, 13, .inl vc)), (ag, .inl (cI, 13, .inl vg)), (q1, .inl (cI, 24, .inl th1)), (q2, .inl (cI, 4, .inl wh1))] → va_S A s.heap H locs → lv_has ls 14 [(7, .int i1), (6, .ref q2), (5, .ref q1), (0, .ref ak), (1, .ref ah), (2, .ref ac), (3, .ref ag), (4, .int p1)] → W p l e R9 s m ([.ref ak, .ref ah, .ref ac, .ref ag, .int p1] : List Value).toArray below meth c H locs 2 28 Q9 (F0 m 14 ls []) := by
    subst hR9; subst hQ9
    intro n14
    induction n14 with
    | zero => intro th1 wh1 i1 hi0 hi2; exact absurd hi2.2 (by decide)
    | succ n14 ih14 =>
      intro th1 wh1 i1 hi0 hi2 K14 H locs ls hP hD hS hl
      refine lv_iload hx hb dL_closes_14 (lv_at hl 0 rfl) ?_
      refine lv_bipush (v := 24) hx hb dL_closes_16 (by decide) ?_
      refine lv_icmp_ge (tgt := 54) hx hb dL_closes_18 (by decide) (fun c_1 => ?_) (fun c_1 => ?_)
      · have E := K14
        rw [(show lL_closes_14_th1 vk vh vc vg p1 (n14 + 1) th1 wh1 i1 = th1 from by rw [lL_closes_14_th1]; rw [if_pos c_1]), (show lL_closes_14_wh1 vk vh vc vg p1 (n14 + 1) th1 wh1 i1 = wh1 from by rw [lL_closes_14_wh1]; rw [if_pos c_1])] at E
        exact E _ _ _ hP hD hS (lv_sub hl [1, 2, 3, 4, 5, 6, 7] rfl)
      · refine lv_aload hx hb dL_closes_21 (lv_at hl 2 rfl) ?_
        refine lv_iload hx hb dL_closes_23 (lv_at hl 0 rfl) ?_
        refine lv_aload_n hx hb dL_closes_25 rfl (lv_at hl 3 rfl) ?_
        refine lv_bipush (v := 24) hx hb dL_closes_26 (by decide) ?_
        refine lv_iload hx hb dL_closes_28 (lv_at hl 0 rfl) ?_
        refine lv_iadd hx hb dL_closes_30 ?_
        refine va_iald hx hb hK hP 0 0 rfl rfl (i := ((24 : Int32) + i1)) (zi24 (zin_c hi0 (by assumption) (by decide))) dL_closes_31 ?_
        refine va_iast hx hb hK hP hD hS 4 0 rfl rfl (i := i1) (x := (vk (((24 : Int32) + i1)).toNatClampNeg)) (zin_c hi0 (by assumption) (by decide)) dL_closes_32 (fun H locs hP hD hS => ?_)
        have hP : va_P (dC, dI) vwCl [(ak, .inl (cI, 49, .inl vk)), (ah, .inl (cI, 9, .inl vh)), (ac, .inl (cI, 13, .inl vc)), (ag, .inl (cI, 13, .inl vg)), (q1, .inl (cI, 24, .inl (upd th1 (i1).toNatClampNeg (vk (((24 : Int32) + i1)).toNatClampNeg)))), (q2, .inl (cI, 4, .inl wh1))] H := hP
        have hD : va_D A [(ak, .inl (cI, 49, .inl vk)), (ah, .inl (cI, 9, .inl vh)), (ac, .inl (cI, 13, .inl vc)), (ag, .inl (cI, 13, .inl vg)), (q1, .inl (cI, 24, .inl (upd th1 (i1).toNatClampNeg (vk (((24 : Int32) + i1)).toNatClampNeg)))), (q2, .inl (cI, 4, .inl wh1))] := hD
        refine lv_aload hx hb dL_closes_33 (lv_at hl 1 rfl) ?_
        refine lv_iload hx hb dL_closes_35 (lv_at hl 0 rfl) ?_
        refine lv_iconst (v := 4) hx hb dL_closes_37 (by decide) ?_
        refine zvRem hx hb dL_closes_38 (by decide) ?_
        refine lv_aload_n hx hb dL_closes_39 rfl (lv_at hl 4 rfl) ?_
        refine lv_iconst (v := 4) hx hb dL_closes_40 (by decide) ?_
        refine lv_iload hx hb dL_closes_41 (lv_at hl 0 rfl) ?_
        refine lv_iconst (v := 4) hx hb dL_closes_43 (by decide) ?_
        refine zvRem hx hb dL_closes_44 (by decide) ?_
        refine lv_iadd hx hb dL_closes_45 ?_
        refine va_iald hx hb hK hP 1 0 rfl rfl (i := ((4 : Int32) + (zRem i1 (4 : Int32)))) (zi4 (zr4 (zin_c hi0 (by assumption) (by decide)))) dL_closes_46 ?_
        refine va_iast hx hb hK hP hD hS 5 0 rfl rfl (i := (zRem i1 (4 : Int32))) (x := (vh (((4 : Int32) + (zRem i1 (4 : Int32)))).toNatClampNeg)) (zr4 (zin_c hi0 (by assumption) (by decide))) dL_closes_47 (fun H locs hP hD hS => ?_)
        have hP : va_P (dC, dI) vwCl [(ak, .inl (cI, 49, .inl vk)), (ah, .inl (cI, 9, .inl vh)), (ac, .inl (cI, 13, .inl vc)), (ag, .inl (cI, 13, .inl vg)), (q1, .inl (cI, 24, .inl (upd th1 (i1).toNatClampNeg (vk (((24 : Int32) + i1)).toNatClampNeg)))), (q2, .inl (cI, 4, .inl (upd wh1 ((zRem i1 (4 : Int32))).toNatClampNeg (vh (((4 : Int32) + (zRem i1 (4 : Int32)))).toNatClampNeg))))] H := hP
        have hD : va_D A [(ak, .inl (cI, 49, .inl vk)), (ah, .inl (cI, 9, .inl vh)), (ac, .inl (cI, 13, .inl vc)), (ag, .inl (cI, 13, .inl vg)), (q1, .inl (cI, 24, .inl (upd th1 (i1).toNatClampNeg (vk (((24 : Int32) + i1)).toNatClampNeg)))), (q2, .inl (cI, 4, .inl (upd wh1 ((zRem i1 (4 : Int32))).toNatClampNeg (vh (((4 : Int32) + (zRem i1 (4 : Int32)))).toNatClampNeg))))] := hD
        refine lv_iinc (v := (i1 + 1)) (lv' := [(7, .int (i1 + 1)), (6, .ref q2), (5, .ref q1), (0, .ref ak), (1, .ref ah), (2, .ref ac), (3, .ref ag), (4, .int p1)]) hx hb dL_closes_48 hl (k := 0) rfl rfl (by decide) rfl (fun ls hl => ?_)
        refine lv_goto (tgt := 14) hx hb dL_closes_51 (by decide) ?_
        exact ih14 (upd th1 (i1).toNatClampNeg (vk (((24 : Int32) + i1)).toNatClampNeg)) (upd wh1 ((zRem i1 (4 : Int32))).toNatClampNeg (vh (((4 : Int32) + (zRem i1 (4 : Int32)))).toNatClampNeg)) (i1 + 1) (by have h9 := zInc (x := i1) (y := (24 : Int32)) (by assumption); omega) (by have h9 := zInc (x := i1) (y := (24 : Int32)) (by assumption); have h8 := zGo (x := i1) (y := (24 : Int32)) (by assumption); omega) (by have E := K14; rw [(show lL_closes_14_th1 vk vh vc vg p1 (n14 + 1) th1 wh1 i1 = lL_closes_14_th1 vk vh vc vg p1 n14 (upd th1 (i1).toNatClampNeg (vk (((24 : Int32) + i1)).toNatClampNeg)) (upd wh1 ((zRem i1 (4 : Int32))).toNatClampNeg (vh (((4 : Int32) + (zRem i1 (4 : Int32)))).toNatClampNeg)) (i1 + 1) from by rw [lL_closes_14_th1]; rw [if_neg c_1]), (show lL_closes_14_wh1 vk vh vc vg p1 (n14 + 1) th1 wh1 i1 = lL_closes_14_wh1 vk vh vc vg p1 n14 (upd th1 (i1).toNatClampNeg (vk (((24 : Int32) + i1)).toNatClampNeg)) (upd wh1 ((zRem i1 (4 : Int32))).toNatClampNeg (vh (((4 : Int32) + (zRem i1 (4 : Int32)))).toNatClampNeg)) (i1 + 1) from by rw [lL_closes_14_wh1]; rw [if_neg c_1])] at E; exact E) _ _ _ hP hD hS (lv_sub hl [0, 1, 2, 3, 4, 5, 6, 7] rfl)
  subst hR9; subst hQ9
  refine L14 25 (fun _ => (0 : Int32)) (fun _ => (0 : Int32)) (0 : Int32) (by decide) (by decide) (fun H locs ls hP hD hS hl => ?_) _ _ _ hP hD hS (lv_sub hl [0, 1, 2, 3, 4, 5, 6, 7] rfl)
  refine lv_iload hx hb dL_closes_54 (lv_at hl 6 rfl) ?_
  refine lv_istore (lv' := [(7, .int p1), (6, .ref q2), (5, .ref q1), (0, .ref ak), (1, .ref ah), (2, .ref ac), (3, .ref ag), (4, .int p1)]) hx hb dL_closes_56 hl (by decide) rfl (fun ls hl => ?_)
  refine zNm (fun R9 Q9 hR9 hQ9 => ?_)
  have L58 : ∀ (n58 : Nat) (th2 : Nat → Int32) (wh2 : Nat → Int32) (n1 : Int32), 0 ≤ n1.toInt → (vg ((0 : Int32)).toNatClampNeg).toInt - n1.toInt < n58 ∧ 0 < n58 → lL_closes_58_r vk vh vc vg p1 n58 th2 wh2 n1 = rL_closes vk vh vc vg p1 → ∀ (H : Heap) (locs : List Loc) (ls : Array Slot), va_P (dC, dI) vwCl [(ak, .inl (cI, 49, .inl vk)), (ah, .inl (cI, 9, .inl vh)), (ac, .inl (cI, 13, .inl vc)), (ag, .inl (cI, 13, .inl vg)), (q1, .inl (cI, 24, .inl th2)), (q2, .inl (cI, 4, .inl wh2))] H → va_D A [(ak, .inl (cI, 49, .inl vk)), (ah, .inl (cI, 9, .inl vh)), (ac, .inl (cI, 13, .inl vc)), (ag, .inl (cI, 13, .inl vg)), (q1, .inl (cI, 24, .inl th2)), (q2, .inl (cI, 4, .inl wh2))] → va_S A s.heap H locs → lv_has ls 14 [(7, .int n1), (6, .ref q2), (5, .ref q1), (0, .ref ak), (1, .ref ah), (2, .ref ac), (3, .ref ag), (4, .int p1)] → W p l e R9 s m ([.ref ak, .ref ah, .ref ac, .ref ag, .int p1] : List Value).toArray below meth c H locs 2 28 Q9 (F0 m 58 ls []) := by
    subst hR9; subst hQ9
    intro n58
    induction n58 with
    | zero => intro th2 wh2 n1 hn0 hn2; exact absurd hn2.2 (by decide)
    | succ n58 ih58 =>
      intro th2 wh2 n1 hn0 hn2 hres58_r H locs ls hP hD hS hl
      refine lv_iload hx hb dL_closes_58 (lv_at hl 0 rfl) ?_
      refine lv_aload_n hx hb dL_closes_60 rfl (lv_at hl 6 rfl) ?_
      refine lv_iconst (v := 0) hx hb dL_closes_61 (by decide) ?_
      refine va_iald hx hb hK hP 3 0 rfl rfl (i := (0 : Int32)) (by unfold vp_in; decide) dL_closes_62 ?_
      refine lv_icmp_ge (tgt := 393) hx hb dL_closes_63 (by decide) (fun c_2 => ?_) (fun c_2 => ?_)
      · refine lv_iconst (v := 1) hx hb dL_closes_393 (by decide) ?_
        refine W.widen (k := 2) (n := 28) (by decide) (by decide) ?_
        exact W.zret (v := (1 : Int32)) hx hb hr (zNar (Or.inr rfl)) (fun t ht hW => ⟨⟨(1 : Int32), (), rfl, (by rw [← hres58_r]; rw [lL_closes_58_r]; rw [if_pos c_2]), (by rw [ht]; exact hP.sub [0, 1, 2, 3] rfl), va_K.moved hW.alike hK, hD.sub [0, 1, 2, 3] (by decide) rfl⟩, hS.F ht⟩) hS.2.2 dL_closes_394
      · refine lv_aload_n hx hb dL_closes_66 rfl (lv_at hl 5 rfl) ?_
        refine lv_iload hx hb dL_closes_67 (lv_at hl 0 rfl) ?_
        refine va_iald hx hb hK hP 2 0 rfl rfl (i := n1) (zin_13 (zin_c (n := 12) hn0 (by assumption) hg0)) dL_closes_69 ?_
        refine lv_bipush (v := 8) hx hb dL_closes_70 (by decide) ?_
        refine zvRem hx hb dL_closes_72 (by decide) ?_
        refine lv_istore (lv' := [(8, .int (zRem (vc (n1).toNatClampNeg) (8 : Int32))), (7, .int n1), (6, .ref q2), (5, .ref q1), (0, .ref ak), (1, .ref ah), (2, .ref ac), (3, .ref ag), (4, .int p1)]) hx hb dL_closes_73 hl (by decide) rfl (fun ls hl => ?_)
        refine lv_aload_n hx hb dL_closes_75 rfl (lv_at hl 6 rfl) ?_
        refine lv_iload hx hb dL_closes_76 (lv_at hl 1 rfl) ?_
        refine va_iald hx hb hK hP 2 0 rfl rfl (i := n1) (zin_13 (zin_c (n := 12) hn0 (by assumption) hg0)) dL_closes_78 ?_
        refine lv_bipush (v := 8) hx hb dL_closes_79 (by decide) ?_
        refine lv_idiv hx hb dL_closes_81 (by decide) ?_
        refine lv_bipush (v := 8) hx hb dL_closes_82 (by decide) ?_
        refine zvRem hx hb dL_closes_84 (by decide) ?_
        refine lv_istore (lv' := [(9, .int (zRem ((vc (n1).toNatClampNeg) / (8 : Int32)) (8 : Int32))), (8, .int (zRem (vc (n1).toNatClampNeg) (8 : Int32))), (7, .int n1), (6, .ref q2), (5, .ref q1), (0, .ref ak), (1, .ref ah), (2, .ref ac), (3, .ref ag), (4, .int p1)]) hx hb dL_closes_85 hl (by decide) rfl (fun ls hl => ?_)
        refine lv_aload_n hx hb dL_closes_87 rfl (lv_at hl 7 rfl) ?_
        refine lv_iload hx hb dL_closes_88 (lv_at hl 2 rfl) ?_
        refine va_iald hx hb hK hP 2 0 rfl rfl (i := n1) (zin_13 (zin_c (n := 12) hn0 (by assumption) hg0)) dL_closes_90 ?_
        refine lv_bipush (v := 64) hx hb dL_closes_91 (by decide) ?_
        refine lv_idiv hx hb dL_closes_93 (by decide) ?_
        refine lv_bipush (v := 8) hx hb dL_closes_94 (by decide) ?_
        refine zvRem hx hb dL_closes_96 (by decide) ?_
        refine lv_istore (lv' := [(10, .int (zRem ((vc (n1).toNatClampNeg) / (64 : Int32)) (8 : Int32))), (9, .int (zRem ((vc (n1).toNatClampNeg) / (8 : Int32)) (8 : Int32))), (8, .int (zRem (vc (n1).toNatClampNeg) (8 : Int32))), (7, .int n1), (6, .ref q2), (5, .ref q1), (0, .ref ak), (1, .ref ah), (2, .ref ac), (3, .ref ag), (4, .int p1)]) hx hb dL_closes_97 hl (by decide) rfl (fun ls hl => ?_)
        refine lv_aload_n hx hb dL_closes_99 rfl (lv_at hl 8 rfl) ?_
        refine lv_iload hx hb dL_closes_100 (lv_at hl 3 rfl) ?_
        refine va_iald hx hb hK hP 2 0 rfl rfl (i := n1) (zin_13 (zin_c (n := 12) hn0 (by assumption) hg0)) dL_closes_102 ?_
        refine lv_sipush (v := 512) hx hb dL_closes_103 (by decide) ?_
        refine lv_idiv hx hb dL_closes_106 (by decide) ?_
        refine lv_istore (lv' := [(11, .int ((vc (n1).toNatClampNeg) / (512 : Int32))), (10, .int (zRem ((vc (n1).toNatClampNeg) / (64 : Int32)) (8 : Int32))), (9, .int (zRem ((vc (n1).toNatClampNeg) / (8 : Int32)) (8 : Int32))), (8, .int (zRem (vc (n1).toNatClampNeg) (8 : Int32))), (7, .int n1), (6, .ref q2), (5, .ref q1), (0, .ref ak), (1, .ref ah), (2, .ref ac), (3, .ref ag), (4, .int p1)]) hx hb dL_closes_107 hl (by decide) rfl (fun ls hl => ?_)
        refine lv_aload_n hx hb dL_closes_109 rfl (lv_at hl 10 rfl) ?_
        refine lv_iconst (v := 1) hx hb dL_closes_110 (by decide) ?_
        refine va_iald hx hb hK hP 3 0 rfl rfl (i := (1 : Int32)) (by unfold vp_in; decide) dL_closes_111 ?_
        refine lv_iload hx hb dL_closes_112 (lv_at hl 2 rfl) ?_
        refine zcSi (va_runS (As := [.int (vg ((1 : Int32)).toNatClampNeg), .int (zRem ((vc (n1).toNatClampNeg) / (8 : Int32)) (8 : Int32))]) (rest := []) ⟨hx, hb, hml, hown, hts⟩ (c_L_isIn l hfl dC dI cI cJ H.size (vg ((1 : Int32)).toNatClampNeg) (zRem ((vc (n1).toNatClampNeg) / (8 : Int32)) (8 : Int32)) ) (va_cwS 2 hts gL_closes_L_isIn rfl rfl rfl (by decide +kernel) ⟨Nat.le_of_ble_eq_true rfl, Nat.le_of_ble_eq_true rfl⟩) (zpS hK hP hD hS hA hG [] (by decide) rfl) rfl rfl hl.1 rfl (lv_room (Nat.le_of_ble_eq_true rfl)) dL_closes_114 ⟨Nat.le_of_ble_eq_true rfl, Nat.le_of_ble_eq_true rfl⟩) ?_
        refine zNm (fun R9 Q9 hR9 hQ9 => ?_)
        have J145 : qL_closes_145_r vk vh vc vg p1 th2 wh2 n1 (fun th2 wh2 n1 => lL_closes_58_r vk vh vc vg p1 n58 th2 wh2 n1) = rL_closes vk vh vc vg p1 → ∀ (H : Heap) (locs : List Loc) (ls : Array Slot), va_P (dC, dI) vwCl [(ak, .inl (cI, 49, .inl vk)), (ah, .inl (cI, 9, .inl vh)), (ac, .inl (cI, 13, .inl vc)), (ag, .inl (cI, 13, .inl vg)), (q1, .inl (cI, 24, .inl th2)), (q2, .inl (cI, 4, .inl wh2))] H → va_D A [(ak, .inl (cI, 49, .inl vk)), (ah, .inl (cI, 9, .inl vh)), (ac, .inl (cI, 13, .inl vc)), (ag, .inl (cI, 13, .inl vg)), (q1, .inl (cI, 24, .inl th2)), (q2, .inl (cI, 4, .inl wh2))] → va_S A s.heap H locs → lv_has ls 14 [(11, .int ((vc (n1).toNatClampNeg) / (512 : Int32))), (10, .int (zRem ((vc (n1).toNatClampNeg) / (64 : Int32)) (8 : Int32))), (9, .int (zRem ((vc (n1).toNatClampNeg) / (8 : Int32)) (8 : Int32))), (8, .int (zRem (vc (n1).toNatClampNeg) (8 : Int32))), (7, .int n1), (6, .ref q2), (5, .ref q1), (0, .ref ak), (1, .ref ah), (2, .ref ac), (3, .ref ag), (4, .int p1)] → W p l e R9 s m ([.ref ak, .ref ah, .ref ac, .ref ag, .int p1] : List Value).toArray below meth c H locs 2 28 Q9 (F0 m 145 ls []) := by
          subst hR9; subst hQ9
          intro hj145_r
          intro H locs ls hP hD hS hl
          refine lv_iload hx hb dL_closes_145 (lv_at hl 3 rfl) ?_
          refine lv_if_ne (tgt := 346) hx hb dL_closes_147 (by decide) (fun c_3 => ?_) (fun c_3 => ?_)
          · refine lv_iload hx hb dL_closes_346 (lv_at hl 3 rfl) ?_
            refine lv_iconst (v := 1) hx hb dL_closes_348 (by decide) ?_
            refine lv_icmp_ne (tgt := 387) hx hb dL_closes_349 (by decide) (fun c_4 => ?_) (fun c_4 => ?_)
            · refine lv_iinc (v := (n1 + 1)) (lv' := [(7, .int (n1 + 1)), (11, .int ((vc (n1).toNatClampNeg) / (512 : Int32))), (10, .int (zRem ((vc (n1).toNatClampNeg) / (64 : Int32)) (8 : Int32))), (9, .int (zRem ((vc (n1).toNatClampNeg) / (8 : Int32)) (8 : Int32))), (8, .int (zRem (vc (n1).toNatClampNeg) (8 : Int32))), (6, .ref q2), (5, .ref q1), (0, .ref ak), (1, .ref ah), (2, .ref ac), (3, .ref ag), (4, .int p1)]) hx hb dL_closes_387 hl (k := 4) rfl rfl (by decide) rfl (fun ls hl => ?_)
              refine lv_goto (tgt := 58) hx hb dL_closes_390 (by decide) ?_
              exact ih58 th2 wh2 (n1 + 1) (by have h9 := zInc (x := n1) (y := (vg ((0 : Int32)).toNatClampNeg)) (by assumption); omega) (by have h9 := zInc (x := n1) (y := (vg ((0 : Int32)).toNatClampNeg)) (by assumption); have h8 := zGo (x := n1) (y := (vg ((0 : Int32)).toNatClampNeg)) (by assumption); omega) (by rw [← hj145_r]; unfold qL_closes_145_r; rw [if_neg c_3, if_neg c_4]) _ _ _ hP hD hS (lv_sub hl [0, 5, 6, 7, 8, 9, 10, 11] rfl)
            · refine lv_aload hx hb dL_closes_352 (lv_at hl 5 rfl) ?_
              refine lv_iload hx hb dL_closes_354 (lv_at hl 0 rfl) ?_
              refine va_iald hx hb hK hP 5 0 rfl rfl (i := ((vc (n1).toNatClampNeg) / (512 : Int32))) (hC _ (zin_lt (zin_c (n := 12) hn0 (by assumption) hg0))).2.2.2 dL_closes_356 ?_
              refine zNm (fun R9 Q9 hR9 hQ9 => ?_)
              have J378 : qL_closes_378_r vk vh vc vg p1 th2 wh2 n1 (fun th2 wh2 n1 => lL_closes_58_r vk vh vc vg p1 n58 th2 wh2 n1) = rL_closes vk vh vc vg p1 → ∀ (H : Heap) (locs : List Loc) (ls : Array Slot), va_P (dC, dI) vwCl [(ak, .inl (cI, 49, .inl vk)), (ah, .inl (cI, 9, .inl vh)), (ac, .inl (cI, 13, .inl vc)), (ag, .inl (cI, 13, .inl vg)), (q1, .inl (cI, 24, .inl th2)), (q2, .inl (cI, 4, .inl wh2))] H → va_D A [(ak, .inl (cI, 49, .inl vk)), (ah, .inl (cI, 9, .inl vh)), (ac, .inl (cI, 13, .inl vc)), (ag, .inl (cI, 13, .inl vg)), (q1, .inl (cI, 24, .inl th2)), (q2, .inl (cI, 4, .inl wh2))] → va_S A s.heap H locs → lv_has ls 14 [(11, .int ((vc (n1).toNatClampNeg) / (512 : Int32))), (10, .int (zRem ((vc (n1).toNatClampNeg) / (64 : Int32)) (8 : Int32))), (9, .int (zRem ((vc (n1).toNatClampNeg) / (8 : Int32)) (8 : Int32))), (8, .int (zRem (vc (n1).toNatClampNeg) (8 : Int32))), (7, .int n1), (6, .ref q2), (5, .ref q1), (0, .ref ak), (1, .ref ah), (2, .ref ac), (3, .ref ag), (4, .int p1)] → W p l e R9 s m ([.ref ak, .ref ah, .ref ac, .ref ag, .int p1] : List Value).toArray below meth c H locs 2 28 Q9 (F0 m 378 ls []) := by
                subst hR9; subst hQ9
                intro hj378_r
                intro H locs ls hP hD hS hl
                refine lv_aload hx hb dL_closes_378 (lv_at hl 5 rfl) ?_
                refine lv_iload hx hb dL_closes_380 (lv_at hl 0 rfl) ?_
                refine lv_iload hx hb dL_closes_382 (lv_at hl 1 rfl) ?_
                refine lv_iconst (v := 1) hx hb dL_closes_384 (by decide) ?_
                refine lv_iadd hx hb dL_closes_385 ?_
                refine va_iast hx hb hK hP hD hS 5 0 rfl rfl (i := ((vc (n1).toNatClampNeg) / (512 : Int32))) (x := ((zRem ((vc (n1).toNatClampNeg) / (64 : Int32)) (8 : Int32)) + (1 : Int32))) (hC _ (zin_lt (zin_c (n := 12) hn0 (by assumption) hg0))).2.2.2 dL_closes_386 (fun H locs hP hD hS => ?_)
                have hP : va_P (dC, dI) vwCl [(ak, .inl (cI, 49, .inl vk)), (ah, .inl (cI, 9, .inl vh)), (ac, .inl (cI, 13, .inl vc)), (ag, .inl (cI, 13, .inl vg)), (q1, .inl (cI, 24, .inl th2)), (q2, .inl (cI, 4, .inl (upd wh2 (((vc (n1).toNatClampNeg) / (512 : Int32))).toNatClampNeg ((zRem ((vc (n1).toNatClampNeg) / (64 : Int32)) (8 : Int32)) + (1 : Int32)))))] H := hP
                have hD : va_D A [(ak, .inl (cI, 49, .inl vk)), (ah, .inl (cI, 9, .inl vh)), (ac, .inl (cI, 13, .inl vc)), (ag, .inl (cI, 13, .inl vg)), (q1, .inl (cI, 24, .inl th2)), (q2, .inl (cI, 4, .inl (upd wh2 (((vc (n1).toNatClampNeg) / (512 : Int32))).toNatClampNeg ((zRem ((vc (n1).toNatClampNeg) / (64 : Int32)) (8 : Int32)) + (1 : Int32)))))] := hD
                refine lv_iinc (v := (n1 + 1)) (lv' := [(7, .int (n1 + 1)), (11, .int ((vc (n1).toNatClampNeg) / (512 : Int32))), (10, .int (zRem ((vc (n1).toNatClampNeg) / (64 : Int32)) (8 : Int32))), (9, .int (zRem ((vc (n1).toNatClampNeg) / (8 : Int32)) (8 : Int32))), (8, .int (zRem (vc (n1).toNatClampNeg) (8 : Int32))), (6, .ref q2), (5, .ref q1), (0, .ref ak), (1, .ref ah), (2, .ref ac), (3, .ref ag), (4, .int p1)]) hx hb dL_closes_387 hl (k := 4) rfl rfl (by decide) rfl (fun ls hl => ?_)
                refine lv_goto (tgt := 58) hx hb dL_closes_390 (by decide) ?_
                exact ih58 th2 (upd wh2 (((vc (n1).toNatClampNeg) / (512 : Int32))).toNatClampNeg ((zRem ((vc (n1).toNatClampNeg) / (64 : Int32)) (8 : Int32)) + (1 : Int32))) (n1 + 1) (by have h9 := zInc (x := n1) (y := (vg ((0 : Int32)).toNatClampNeg)) (by assumption); omega) (by have h9 := zInc (x := n1) (y := (vg ((0 : Int32)).toNatClampNeg)) (by assumption); have h8 := zGo (x := n1) (y := (vg ((0 : Int32)).toNatClampNeg)) (by assumption); omega) (by rw [← hj378_r]; unfold qL_closes_378_r; rfl) _ _ _ hP hD hS (lv_sub hl [0, 5, 6, 7, 8, 9, 10, 11] rfl)
              subst hR9; subst hQ9
              refine lv_if_le (tgt := 378) hx hb dL_closes_357 (by decide) (fun c_5 => ?_) (fun c_5 => ?_)
              · exact J378 (by rw [← hj145_r]; unfold qL_closes_145_r; rw [if_neg c_3, if_pos c_4, if_pos c_5]) _ _ _ hP hD hS (lv_sub hl [0, 1, 2, 3, 4, 5, 6, 7, 8, 9, 10, 11] rfl)
              · refine lv_aload_n hx hb dL_closes_360 rfl (lv_at hl 10 rfl) ?_
                refine lv_iconst (v := 1) hx hb dL_closes_361 (by decide) ?_
                refine va_iald hx hb hK hP 3 0 rfl rfl (i := (1 : Int32)) (by unfold vp_in; decide) dL_closes_362 ?_
                refine lv_aload hx hb dL_closes_363 (lv_at hl 5 rfl) ?_
                refine lv_iload hx hb dL_closes_365 (lv_at hl 0 rfl) ?_
                refine va_iald hx hb hK hP 5 0 rfl rfl (i := ((vc (n1).toNatClampNeg) / (512 : Int32))) (hC _ (zin_lt (zin_c (n := 12) hn0 (by assumption) hg0))).2.2.2 dL_closes_367 ?_
                refine lv_iconst (v := 1) hx hb dL_closes_368 (by decide) ?_
                refine lv_isub hx hb dL_closes_369 ?_
                refine zcSi (va_runS (As := [.int (vg ((1 : Int32)).toNatClampNeg), .int ((wh2 (((vc (n1).toNatClampNeg) / (512 : Int32))).toNatClampNeg) - (1 : Int32))]) (rest := []) ⟨hx, hb, hml, hown, hts⟩ (c_L_isIn l hfl dC dI cI cJ H.size (vg ((1 : Int32)).toNatClampNeg) ((wh2 (((vc (n1).toNatClampNeg) / (512 : Int32))).toNatClampNeg) - (1 : Int32)) ) (va_cwS 2 hts gL_closes_L_isIn rfl rfl rfl (by decide +kernel) ⟨Nat.le_of_ble_eq_true rfl, Nat.le_of_ble_eq_true rfl⟩) (zpS hK hP hD hS hA hG [] (by decide) rfl) rfl rfl hl.1 rfl (lv_room (Nat.le_of_ble_eq_true rfl)) dL_closes_370 ⟨Nat.le_of_ble_eq_true rfl, Nat.le_of_ble_eq_true rfl⟩) ?_
                refine lv_if_eq (tgt := 378) hx hb dL_closes_373 (by decide) (fun c_6 => ?_) (fun c_6 => ?_)
                · exact J378 (by rw [← hj145_r]; unfold qL_closes_145_r; rw [if_neg c_3, if_pos c_4, if_neg c_5, if_pos c_6]) _ _ _ hP hD hS (lv_sub hl [0, 1, 2, 3, 4, 5, 6, 7, 8, 9, 10, 11] rfl)
                · refine lv_iconst (v := 0) hx hb dL_closes_376 (by decide) ?_
                  refine W.widen (k := 2) (n := 28) (by decide) (by decide) ?_
                  exact W.zret (v := (0 : Int32)) hx hb hr (zNar (Or.inl rfl)) (fun t ht hW => ⟨⟨(0 : Int32), (), rfl, (by rw [← hj145_r]; unfold qL_closes_145_r; rw [if_neg c_3, if_pos c_4, if_neg c_5, if_neg c_6]), (by rw [ht]; exact hP.sub [0, 1, 2, 3] rfl), va_K.moved hW.alike hK, hD.sub [0, 1, 2, 3] (by decide) rfl⟩, hS.F ht⟩) hS.2.2 dL_closes_377
          · refine lv_iconst (v := 0) hx hb dL_closes_150 (by decide) ?_
            refine lv_istore (lv' := [(12, .int (0 : Int32)), (11, .int ((vc (n1).toNatClampNeg) / (512 : Int32))), (10, .int (zRem ((vc (n1).toNatClampNeg) / (64 : Int32)) (8 : Int32))), (9, .int (zRem ((vc (n1).toNatClampNeg) / (8 : Int32)) (8 : Int32))), (8, .int (zRem (vc (n1).toNatClampNeg) (8 : Int32))), (7, .int n1), (6, .ref q2), (5, .ref q1), (0, .ref ak), (1, .ref ah), (2, .ref ac), (3, .ref ag), (4, .int p1)]) hx hb dL_closes_151 hl (by decide) rfl (fun ls hl => ?_)
            refine lv_iconst (v := 0) hx hb dL_closes_153 (by decide) ?_
            refine lv_istore (lv' := [(13, .int (0 : Int32)), (12, .int (0 : Int32)), (11, .int ((vc (n1).toNatClampNeg) / (512 : Int32))), (10, .int (zRem ((vc (n1).toNatClampNeg) / (64 : Int32)) (8 : Int32))), (9, .int (zRem ((vc (n1).toNatClampNeg) / (8 : Int32)) (8 : Int32))), (8, .int (zRem (vc (n1).toNatClampNeg) (8 : Int32))), (7, .int n1), (6, .ref q2), (5, .ref q1), (0, .ref ak), (1, .ref ah), (2, .ref ac), (3, .ref ag), (4, .int p1)]) hx hb dL_closes_154 hl (by decide) rfl (fun ls hl => ?_)
            refine zNm (fun R9 Q9 hR9 hQ9 => ?_)
            have L156 : ∀ (n156 : Nat) (by1 : Int32) (m1 : Int32), 0 ≤ m1.toInt → ((6 : Int32)).toInt - m1.toInt < n156 ∧ 0 < n156 → (∀ (H : Heap) (locs : List Loc) (ls : Array Slot), va_P (dC, dI) vwCl [(ak, .inl (cI, 49, .inl vk)), (ah, .inl (cI, 9, .inl vh)), (ac, .inl (cI, 13, .inl vc)), (ag, .inl (cI, 13, .inl vg)), (q1, .inl (cI, 24, .inl th2)), (q2, .inl (cI, 4, .inl wh2))] H → va_D A [(ak, .inl (cI, 49, .inl vk)), (ah, .inl (cI, 9, .inl vh)), (ac, .inl (cI, 13, .inl vc)), (ag, .inl (cI, 13, .inl vg)), (q1, .inl (cI, 24, .inl th2)), (q2, .inl (cI, 4, .inl wh2))] → va_S A s.heap H locs → lv_has ls 14 [(12, .int (lL_closes_156_by1 vk vh vc vg p1 th2 wh2 n1 n156 by1 m1)), (11, .int ((vc (n1).toNatClampNeg) / (512 : Int32))), (10, .int (zRem ((vc (n1).toNatClampNeg) / (64 : Int32)) (8 : Int32))), (9, .int (zRem ((vc (n1).toNatClampNeg) / (8 : Int32)) (8 : Int32))), (8, .int (zRem (vc (n1).toNatClampNeg) (8 : Int32))), (7, .int n1), (6, .ref q2), (5, .ref q1), (0, .ref ak), (1, .ref ah), (2, .ref ac), (3, .ref ag), (4, .int p1)] → W p l e R9 s m ([.ref ak, .ref ah, .ref ac, .ref ag, .int p1] : List Value).toArray below meth c H locs 2 28 Q9 (F0 m 206 ls [])) → ∀ (H : Heap) (locs : List Loc) (ls : Array Slot), va_P (dC, dI) vwCl [(ak, .inl (cI, 49, .inl vk)), (ah, .inl (cI, 9, .inl vh)), (ac, .inl (cI, 13, .inl vc)), (ag, .inl (cI, 13, .inl vg)), (q1, .inl (cI, 24, .inl th2)), (q2, .inl (cI, 4, .inl wh2))] H → va_D A [(ak, .inl (cI, 49, .inl vk)), (ah, .inl (cI, 9, .inl vh)), (ac, .inl (cI, 13, .inl vc)), (ag, .inl (cI, 13, .inl vg)), (q1, .inl (cI, 24, .inl th2)), (q2, .inl (cI, 4, .inl wh2))] → va_S A s.heap H locs → lv_has ls 14 [(13, .int m1), (12, .int by1), (11, .int ((vc (n1).toNatClampNeg) / (512 : Int32))), (10, .int (zRem ((vc (n1).toNatClampNeg) / (64 : Int32)) (8 : Int32))), (9, .int (zRem ((vc (n1).toNatClampNeg) / (8 : Int32)) (8 : Int32))), (8, .int (zRem (vc (n1).toNatClampNeg) (8 : Int32))), (7, .int n1), (6, .ref q2), (5, .ref q1), (0, .ref ak), (1, .ref ah), (2, .ref ac), (3, .ref ag), (4, .int p1)] → W p l e R9 s m ([.ref ak, .ref ah, .ref ac, .ref ag, .int p1] : List Value).toArray below meth c H locs 2 28 Q9 (F0 m 156 ls []) := by
              subst hR9; subst hQ9
              intro n156
              induction n156 with
              | zero => intro by1 m1 hm0 hm2; exact absurd hm2.2 (by decide)
              | succ n156 ih156 =>
                intro by1 m1 hm0 hm2 K156 H locs ls hP hD hS hl
                refine lv_iload hx hb dL_closes_156 (lv_at hl 0 rfl) ?_
                refine lv_bipush (v := 6) hx hb dL_closes_158 (by decide) ?_
                refine lv_icmp_ge (tgt := 206) hx hb dL_closes_160 (by decide) (fun c_7 => ?_) (fun c_7 => ?_)
                · have E := K156
                  rw [(show lL_closes_156_by1 vk vh vc vg p1 th2 wh2 n1 (n156 + 1) by1 m1 = by1 from by rw [lL_closes_156_by1]; rw [if_pos c_7])] at E
                  exact E _ _ _ hP hD hS (lv_sub hl [1, 2, 3, 4, 5, 6, 7, 8, 9, 10, 11, 12, 13] rfl)
                · refine lv_iload hx hb dL_closes_163 (lv_at hl 1 rfl) ?_
                  refine zNm (fun R9 Q9 hR9 hQ9 => ?_)
                  have J198 : ∀ (v198_0 : Int32), v198_0 = (jL_closes_198_0 vk vh vc vg p1 th2 wh2 n1 by1 m1) → ∀ (H : Heap) (locs : List Loc) (ls : Array Slot), va_P (dC, dI) vwCl [(ak, .inl (cI, 49, .inl vk)), (ah, .inl (cI, 9, .inl vh)), (ac, .inl (cI, 13, .inl vc)), (ag, .inl (cI, 13, .inl vg)), (q1, .inl (cI, 24, .inl th2)), (q2, .inl (cI, 4, .inl wh2))] H → va_D A [(ak, .inl (cI, 49, .inl vk)), (ah, .inl (cI, 9, .inl vh)), (ac, .inl (cI, 13, .inl vc)), (ag, .inl (cI, 13, .inl vg)), (q1, .inl (cI, 24, .inl th2)), (q2, .inl (cI, 4, .inl wh2))] → va_S A s.heap H locs → lv_has ls 14 [(13, .int m1), (12, .int by1), (11, .int ((vc (n1).toNatClampNeg) / (512 : Int32))), (10, .int (zRem ((vc (n1).toNatClampNeg) / (64 : Int32)) (8 : Int32))), (9, .int (zRem ((vc (n1).toNatClampNeg) / (8 : Int32)) (8 : Int32))), (8, .int (zRem (vc (n1).toNatClampNeg) (8 : Int32))), (7, .int n1), (6, .ref q2), (5, .ref q1), (0, .ref ak), (1, .ref ah), (2, .ref ac), (3, .ref ag), (4, .int p1)] → W p l e R9 s m ([.ref ak, .ref ah, .ref ac, .ref ag, .int p1] : List Value).toArray below meth c H locs 2 28 Q9 (F0 m 198 ls [.int v198_0]) := by
                    subst hR9; subst hQ9
                    intro v198_0 hvv198_0
                    rw [hvv198_0]; clear hvv198_0 v198_0
                    intro H locs ls hP hD hS hl
                    refine lv_istore (lv' := [(12, .int (jL_closes_198_0 vk vh vc vg p1 th2 wh2 n1 by1 m1)), (13, .int m1), (11, .int ((vc (n1).toNatClampNeg) / (512 : Int32))), (10, .int (zRem ((vc (n1).toNatClampNeg) / (64 : Int32)) (8 : Int32))), (9, .int (zRem ((vc (n1).toNatClampNeg) / (8 : Int32)) (8 : Int32))), (8, .int (zRem (vc (n1).toNatClampNeg) (8 : Int32))), (7, .int n1), (6, .ref q2), (5, .ref q1), (0, .ref ak), (1, .ref ah), (2, .ref ac), (3, .ref ag), (4, .int p1)]) hx hb dL_closes_198 hl (by decide) rfl (fun ls hl => ?_)
                    refine lv_iinc (v := (m1 + 1)) (lv' := [(13, .int (m1 + 1)), (12, .int (jL_closes_198_0 vk vh vc vg p1 th2 wh2 n1 by1 m1)), (11, .int ((vc (n1).toNatClampNeg) / (512 : Int32))), (10, .int (zRem ((vc (n1).toNatClampNeg) / (64 : Int32)) (8 : Int32))), (9, .int (zRem ((vc (n1).toNatClampNeg) / (8 : Int32)) (8 : Int32))), (8, .int (zRem (vc (n1).toNatClampNeg) (8 : Int32))), (7, .int n1), (6, .ref q2), (5, .ref q1), (0, .ref ak), (1, .ref ah), (2, .ref ac), (3, .ref ag), (4, .int p1)]) hx hb dL_closes_200 hl (k := 1) rfl rfl (by decide) rfl (fun ls hl => ?_)
                    refine lv_goto (tgt := 156) hx hb dL_closes_203 (by decide) ?_
                    exact ih156 (jL_closes_198_0 vk vh vc vg p1 th2 wh2 n1 by1 m1) (m1 + 1) (by have h9 := zInc (x := m1) (y := (6 : Int32)) (by assumption); omega) (by have h9 := zInc (x := m1) (y := (6 : Int32)) (by assumption); have h8 := zGo (x := m1) (y := (6 : Int32)) (by assumption); omega) (by have E := K156; rw [(show lL_closes_156_by1 vk vh vc vg p1 th2 wh2 n1 (n156 + 1) by1 m1 = lL_closes_156_by1 vk vh vc vg p1 th2 wh2 n1 n156 (jL_closes_198_0 vk vh vc vg p1 th2 wh2 n1 by1 m1) (m1 + 1) from by rw [lL_closes_156_by1]; rw [if_neg c_7])] at E; exact E) _ _ _ hP hD hS (lv_sub hl [0, 1, 2, 3, 4, 5, 6, 7, 8, 9, 10, 11, 12, 13] rfl)
                  subst hR9; subst hQ9
                  refine lv_if_ne (tgt := 193) hx hb dL_closes_165 (by decide) (fun c_8 => ?_) (fun c_8 => ?_)
                  · refine lv_iconst (v := 1) hx hb dL_closes_193 (by decide) ?_
                    refine lv_goto (tgt := 198) hx hb dL_closes_194 (by decide) ?_
                    exact J198 (1 : Int32) (by unfold jL_closes_198_0; rw [if_neg c_8]) _ _ _ hP hD hS (lv_sub hl [0, 1, 2, 3, 4, 5, 6, 7, 8, 9, 10, 11, 12, 13] rfl)
                  · refine lv_aload hx hb dL_closes_168 (lv_at hl 8 rfl) ?_
                    refine lv_iconst (v := 4) hx hb dL_closes_170 (by decide) ?_
                    refine lv_iload hx hb dL_closes_171 (lv_at hl 0 rfl) ?_
                    refine lv_imul hx hb dL_closes_173 ?_
                    refine lv_iload hx hb dL_closes_174 (lv_at hl 2 rfl) ?_
                    refine lv_iadd hx hb dL_closes_176 ?_
                    refine va_iald hx hb hK hP 4 0 rfl rfl (i := (((4 : Int32) * m1) + ((vc (n1).toNatClampNeg) / (512 : Int32)))) (zi4m (zin_c hm0 (by assumption) (by decide)) (hC _ (zin_lt (zin_c (n := 12) hn0 (by assumption) hg0))).2.2.2) dL_closes_177 ?_
                    refine lv_iconst (v := 1) hx hb dL_closes_178 (by decide) ?_
                    refine lv_icmp_ne (tgt := 197) hx hb dL_closes_179 (by decide) (fun c_9 => ?_) (fun c_9 => ?_)
                    · refine lv_iconst (v := 0) hx hb dL_closes_197 (by decide) ?_
                      exact J198 (0 : Int32) (by unfold jL_closes_198_0; rw [if_pos c_8, if_neg c_9]) _ _ _ hP hD hS (lv_sub hl [0, 1, 2, 3, 4, 5, 6, 7, 8, 9, 10, 11, 12, 13] rfl)
                    · refine lv_aload_n hx hb dL_closes_182 rfl (lv_at hl 12 rfl) ?_
                      refine lv_iconst (v := 1) hx hb dL_closes_183 (by decide) ?_
                      refine va_iald hx hb hK hP 3 0 rfl rfl (i := (1 : Int32)) (by unfold vp_in; decide) dL_closes_184 ?_
                      refine lv_iload hx hb dL_closes_185 (lv_at hl 0 rfl) ?_
                      refine zcSi (va_runS (As := [.int (vg ((1 : Int32)).toNatClampNeg), .int m1]) (rest := []) ⟨hx, hb, hml, hown, hts⟩ (c_L_isIn l hfl dC dI cI cJ H.size (vg ((1 : Int32)).toNatClampNeg) m1 ) (va_cwS 2 hts gL_closes_L_isIn rfl rfl rfl (by decide +kernel) ⟨Nat.le_of_ble_eq_true rfl, Nat.le_of_ble_eq_true rfl⟩) (zpS hK hP hD hS hA hG [] (by decide) rfl) rfl rfl hl.1 rfl (lv_room (Nat.le_of_ble_eq_true rfl)) dL_closes_187 ⟨Nat.le_of_ble_eq_true rfl, Nat.le_of_ble_eq_true rfl⟩) ?_
                      refine lv_if_ne (tgt := 197) hx hb dL_closes_190 (by decide) (fun c_10 => ?_) (fun c_10 => ?_)
                      · refine lv_iconst (v := 0) hx hb dL_closes_197 (by decide) ?_
                        exact J198 (0 : Int32) (by unfold jL_closes_198_0; rw [if_pos c_8, if_pos c_9, if_neg c_10]) _ _ _ hP hD hS (lv_sub hl [0, 1, 2, 3, 4, 5, 6, 7, 8, 9, 10, 11, 12, 13] rfl)
                      · refine lv_iconst (v := 1) hx hb dL_closes_193 (by decide) ?_
                        refine lv_goto (tgt := 198) hx hb dL_closes_194 (by decide) ?_
                        exact J198 (1 : Int32) (by unfold jL_closes_198_0; rw [if_pos c_8, if_pos c_9, if_pos c_10]) _ _ _ hP hD hS (lv_sub hl [0, 1, 2, 3, 4, 5, 6, 7, 8, 9, 10, 11, 12, 13] rfl)
            subst hR9; subst hQ9
            refine L156 7 (0 : Int32) (0 : Int32) (by decide) (by decide) (fun H locs ls hP hD hS hl => ?_) _ _ _ hP hD hS (lv_sub hl [0, 1, 2, 3, 4, 5, 6, 7, 8, 9, 10, 11, 12, 13] rfl)
            refine lv_iload hx hb dL_closes_206 (lv_at hl 5 rfl) ?_
            refine lv_iconst (v := 1) hx hb dL_closes_208 (by decide) ?_
            refine lv_iadd hx hb dL_closes_209 ?_
            refine lv_istore (lv' := [(13, .int (n1 + (1 : Int32))), (12, .int (lL_closes_156_by1 vk vh vc vg p1 th2 wh2 n1 7 (0 : Int32) (0 : Int32))), (11, .int ((vc (n1).toNatClampNeg) / (512 : Int32))), (10, .int (zRem ((vc (n1).toNatClampNeg) / (64 : Int32)) (8 : Int32))), (9, .int (zRem ((vc (n1).toNatClampNeg) / (8 : Int32)) (8 : Int32))), (8, .int (zRem (vc (n1).toNatClampNeg) (8 : Int32))), (7, .int n1), (6, .ref q2), (5, .ref q1), (0, .ref ak), (1, .ref ah), (2, .ref ac), (3, .ref ag), (4, .int p1)]) hx hb dL_closes_210 hl (by decide) rfl (fun ls hl => ?_)
            refine zNm (fun R9 Q9 hR9 hQ9 => ?_)
            have L212 : ∀ (n212 : Nat) (by2 : Int32) (m2 : Int32), 0 ≤ m2.toInt → (vg ((0 : Int32)).toNatClampNeg).toInt - m2.toInt < n212 ∧ 0 < n212 → (∀ (H : Heap) (locs : List Loc) (ls : Array Slot), va_P (dC, dI) vwCl [(ak, .inl (cI, 49, .inl vk)), (ah, .inl (cI, 9, .inl vh)), (ac, .inl (cI, 13, .inl vc)), (ag, .inl (cI, 13, .inl vg)), (q1, .inl (cI, 24, .inl th2)), (q2, .inl (cI, 4, .inl wh2))] H → va_D A [(ak, .inl (cI, 49, .inl vk)), (ah, .inl (cI, 9, .inl vh)), (ac, .inl (cI, 13, .inl vc)), (ag, .inl (cI, 13, .inl vg)), (q1, .inl (cI, 24, .inl th2)), (q2, .inl (cI, 4, .inl wh2))] → va_S A s.heap H locs → lv_has ls 14 [(12, .int (lL_closes_212_by2 vk vh vc vg p1 th2 wh2 n1 n212 by2 m2)), (11, .int ((vc (n1).toNatClampNeg) / (512 : Int32))), (10, .int (zRem ((vc (n1).toNatClampNeg) / (64 : Int32)) (8 : Int32))), (9, .int (zRem ((vc (n1).toNatClampNeg) / (8 : Int32)) (8 : Int32))), (8, .int (zRem (vc (n1).toNatClampNeg) (8 : Int32))), (7, .int n1), (6, .ref q2), (5, .ref q1), (0, .ref ak), (1, .ref ah), (2, .ref ac), (3, .ref ag), (4, .int p1)] → W p l e R9 s m ([.ref ak, .ref ah, .ref ac, .ref ag, .int p1] : List Value).toArray below meth c H locs 2 28 Q9 (F0 m 276 ls [])) → ∀ (H : Heap) (locs : List Loc) (ls : Array Slot), va_P (dC, dI) vwCl [(ak, .inl (cI, 49, .inl vk)), (ah, .inl (cI, 9, .inl vh)), (ac, .inl (cI, 13, .inl vc)), (ag, .inl (cI, 13, .inl vg)), (q1, .inl (cI, 24, .inl th2)), (q2, .inl (cI, 4, .inl wh2))] H → va_D A [(ak, .inl (cI, 49, .inl vk)), (ah, .inl (cI, 9, .inl vh)), (ac, .inl (cI, 13, .inl vc)), (ag, .inl (cI, 13, .inl vg)), (q1, .inl (cI, 24, .inl th2)), (q2, .inl (cI, 4, .inl wh2))] → va_S A s.heap H locs → lv_has ls 14 [(13, .int m2), (12, .int by2), (11, .int ((vc (n1).toNatClampNeg) / (512 : Int32))), (10, .int (zRem ((vc (n1).toNatClampNeg) / (64 : Int32)) (8 : Int32))), (9, .int (zRem ((vc (n1).toNatClampNeg) / (8 : Int32)) (8 : Int32))), (8, .int (zRem (vc (n1).toNatClampNeg) (8 : Int32))), (7, .int n1), (6, .ref q2), (5, .ref q1), (0, .ref ak), (1, .ref ah), (2, .ref ac), (3, .ref ag), (4, .int p1)] → W p l e R9 s m ([.ref ak, .ref ah, .ref ac, .ref ag, .int p1] : List Value).toArray below meth c H locs 2 28 Q9 (F0 m 212 ls []) := by
              subst hR9; subst hQ9
              intro n212
              induction n212 with
              | zero => intro by2 m2 hm0 hm2; exact absurd hm2.2 (by decide)
              | succ n212 ih212 =>
                intro by2 m2 hm0 hm2 K212 H locs ls hP hD hS hl
                refine lv_iload hx hb dL_closes_212 (lv_at hl 0 rfl) ?_
                refine lv_aload_n hx hb dL_closes_214 rfl (lv_at hl 12 rfl) ?_
                refine lv_iconst (v := 0) hx hb dL_closes_215 (by decide) ?_
                refine va_iald hx hb hK hP 3 0 rfl rfl (i := (0 : Int32)) (by unfold vp_in; decide) dL_closes_216 ?_
                refine lv_icmp_ge (tgt := 276) hx hb dL_closes_217 (by decide) (fun c_11 => ?_) (fun c_11 => ?_)
                · have E := K212
                  rw [(show lL_closes_212_by2 vk vh vc vg p1 th2 wh2 n1 (n212 + 1) by2 m2 = by2 from by rw [lL_closes_212_by2]; rw [if_pos c_11])] at E
                  exact E _ _ _ hP hD hS (lv_sub hl [1, 2, 3, 4, 5, 6, 7, 8, 9, 10, 11, 12, 13] rfl)
                · refine lv_iload hx hb dL_closes_220 (lv_at hl 1 rfl) ?_
                  refine zNm (fun R9 Q9 hR9 hQ9 => ?_)
                  have J268 : ∀ (v268_0 : Int32), v268_0 = (jL_closes_268_0 vk vh vc vg p1 th2 wh2 n1 by2 m2) → ∀ (H : Heap) (locs : List Loc) (ls : Array Slot), va_P (dC, dI) vwCl [(ak, .inl (cI, 49, .inl vk)), (ah, .inl (cI, 9, .inl vh)), (ac, .inl (cI, 13, .inl vc)), (ag, .inl (cI, 13, .inl vg)), (q1, .inl (cI, 24, .inl th2)), (q2, .inl (cI, 4, .inl wh2))] H → va_D A [(ak, .inl (cI, 49, .inl vk)), (ah, .inl (cI, 9, .inl vh)), (ac, .inl (cI, 13, .inl vc)), (ag, .inl (cI, 13, .inl vg)), (q1, .inl (cI, 24, .inl th2)), (q2, .inl (cI, 4, .inl wh2))] → va_S A s.heap H locs → lv_has ls 14 [(13, .int m2), (12, .int by2), (11, .int ((vc (n1).toNatClampNeg) / (512 : Int32))), (10, .int (zRem ((vc (n1).toNatClampNeg) / (64 : Int32)) (8 : Int32))), (9, .int (zRem ((vc (n1).toNatClampNeg) / (8 : Int32)) (8 : Int32))), (8, .int (zRem (vc (n1).toNatClampNeg) (8 : Int32))), (7, .int n1), (6, .ref q2), (5, .ref q1), (0, .ref ak), (1, .ref ah), (2, .ref ac), (3, .ref ag), (4, .int p1)] → W p l e R9 s m ([.ref ak, .ref ah, .ref ac, .ref ag, .int p1] : List Value).toArray below meth c H locs 2 28 Q9 (F0 m 268 ls [.int v268_0]) := by
                    subst hR9; subst hQ9
                    intro v268_0 hvv268_0
                    rw [hvv268_0]; clear hvv268_0 v268_0
                    intro H locs ls hP hD hS hl
                    refine lv_istore (lv' := [(12, .int (jL_closes_268_0 vk vh vc vg p1 th2 wh2 n1 by2 m2)), (13, .int m2), (11, .int ((vc (n1).toNatClampNeg) / (512 : Int32))), (10, .int (zRem ((vc (n1).toNatClampNeg) / (64 : Int32)) (8 : Int32))), (9, .int (zRem ((vc (n1).toNatClampNeg) / (8 : Int32)) (8 : Int32))), (8, .int (zRem (vc (n1).toNatClampNeg) (8 : Int32))), (7, .int n1), (6, .ref q2), (5, .ref q1), (0, .ref ak), (1, .ref ah), (2, .ref ac), (3, .ref ag), (4, .int p1)]) hx hb dL_closes_268 hl (by decide) rfl (fun ls hl => ?_)
                    refine lv_iinc (v := (m2 + 1)) (lv' := [(13, .int (m2 + 1)), (12, .int (jL_closes_268_0 vk vh vc vg p1 th2 wh2 n1 by2 m2)), (11, .int ((vc (n1).toNatClampNeg) / (512 : Int32))), (10, .int (zRem ((vc (n1).toNatClampNeg) / (64 : Int32)) (8 : Int32))), (9, .int (zRem ((vc (n1).toNatClampNeg) / (8 : Int32)) (8 : Int32))), (8, .int (zRem (vc (n1).toNatClampNeg) (8 : Int32))), (7, .int n1), (6, .ref q2), (5, .ref q1), (0, .ref ak), (1, .ref ah), (2, .ref ac), (3, .ref ag), (4, .int p1)]) hx hb dL_closes_270 hl (k := 1) rfl rfl (by decide) rfl (fun ls hl => ?_)
                    refine lv_goto (tgt := 212) hx hb dL_closes_273 (by decide) ?_
                    exact ih212 (jL_closes_268_0 vk vh vc vg p1 th2 wh2 n1 by2 m2) (m2 + 1) (by have h9 := zInc (x := m2) (y := (vg ((0 : Int32)).toNatClampNeg)) (by assumption); omega) (by have h9 := zInc (x := m2) (y := (vg ((0 : Int32)).toNatClampNeg)) (by assumption); have h8 := zGo (x := m2) (y := (vg ((0 : Int32)).toNatClampNeg)) (by assumption); omega) (by have E := K212; rw [(show lL_closes_212_by2 vk vh vc vg p1 th2 wh2 n1 (n212 + 1) by2 m2 = lL_closes_212_by2 vk vh vc vg p1 th2 wh2 n1 n212 (jL_closes_268_0 vk vh vc vg p1 th2 wh2 n1 by2 m2) (m2 + 1) from by rw [lL_closes_212_by2]; rw [if_neg c_11])] at E; exact E) _ _ _ hP hD hS (lv_sub hl [0, 1, 2, 3, 4, 5, 6, 7, 8, 9, 10, 11, 12, 13] rfl)
                  subst hR9; subst hQ9
                  refine lv_if_eq (tgt := 267) hx hb dL_closes_222 (by decide) (fun c_12 => ?_) (fun c_12 => ?_)
                  · refine lv_iconst (v := 0) hx hb dL_closes_267 (by decide) ?_
                    exact J268 (0 : Int32) (by unfold jL_closes_268_0; rw [if_pos c_12]) _ _ _ hP hD hS (lv_sub hl [0, 1, 2, 3, 4, 5, 6, 7, 8, 9, 10, 11, 12, 13] rfl)
                  · refine lv_aload_n hx hb dL_closes_225 rfl (lv_at hl 11 rfl) ?_
                    refine lv_iload hx hb dL_closes_226 (lv_at hl 0 rfl) ?_
                    refine va_iald hx hb hK hP 2 0 rfl rfl (i := m2) (zin_13 (zin_c (n := 12) hm0 (by assumption) hg0)) dL_closes_228 ?_
                    refine lv_bipush (v := 8) hx hb dL_closes_229 (by decide) ?_
                    refine zvRem hx hb dL_closes_231 (by decide) ?_
                    refine lv_if_ne (tgt := 263) hx hb dL_closes_232 (by decide) (fun c_13 => ?_) (fun c_13 => ?_)
                    · refine lv_iconst (v := 1) hx hb dL_closes_263 (by decide) ?_
                      refine lv_goto (tgt := 268) hx hb dL_closes_264 (by decide) ?_
                      exact J268 (1 : Int32) (by unfold jL_closes_268_0; rw [if_neg c_12, if_neg c_13]) _ _ _ hP hD hS (lv_sub hl [0, 1, 2, 3, 4, 5, 6, 7, 8, 9, 10, 11, 12, 13] rfl)
                    · refine lv_aload_n hx hb dL_closes_235 rfl (lv_at hl 11 rfl) ?_
                      refine lv_iload hx hb dL_closes_236 (lv_at hl 0 rfl) ?_
                      refine va_iald hx hb hK hP 2 0 rfl rfl (i := m2) (zin_13 (zin_c (n := 12) hm0 (by assumption) hg0)) dL_closes_238 ?_
                      refine lv_bipush (v := 64) hx hb dL_closes_239 (by decide) ?_
                      refine lv_idiv hx hb dL_closes_241 (by decide) ?_
                      refine lv_bipush (v := 8) hx hb dL_closes_242 (by decide) ?_
                      refine zvRem hx hb dL_closes_244 (by decide) ?_
                      refine lv_iload hx hb dL_closes_245 (lv_at hl 4 rfl) ?_
                      refine lv_icmp_ne (tgt := 263) hx hb dL_closes_247 (by decide) (fun c_14 => ?_) (fun c_14 => ?_)
                      · refine lv_iconst (v := 1) hx hb dL_closes_263 (by decide) ?_
                        refine lv_goto (tgt := 268) hx hb dL_closes_264 (by decide) ?_
                        exact J268 (1 : Int32) (by unfold jL_closes_268_0; rw [if_neg c_12, if_pos c_13, if_neg c_14]) _ _ _ hP hD hS (lv_sub hl [0, 1, 2, 3, 4, 5, 6, 7, 8, 9, 10, 11, 12, 13] rfl)
                      · refine lv_aload_n hx hb dL_closes_250 rfl (lv_at hl 11 rfl) ?_
                        refine lv_iload hx hb dL_closes_251 (lv_at hl 0 rfl) ?_
                        refine va_iald hx hb hK hP 2 0 rfl rfl (i := m2) (zin_13 (zin_c (n := 12) hm0 (by assumption) hg0)) dL_closes_253 ?_
                        refine lv_sipush (v := 512) hx hb dL_closes_254 (by decide) ?_
                        refine lv_idiv hx hb dL_closes_257 (by decide) ?_
                        refine lv_iload hx hb dL_closes_258 (lv_at hl 2 rfl) ?_
                        refine lv_icmp_eq (tgt := 267) hx hb dL_closes_260 (by decide) (fun c_15 => ?_) (fun c_15 => ?_)
                        · refine lv_iconst (v := 0) hx hb dL_closes_267 (by decide) ?_
                          exact J268 (0 : Int32) (by unfold jL_closes_268_0; rw [if_neg c_12, if_pos c_13, if_pos c_14, if_pos c_15]) _ _ _ hP hD hS (lv_sub hl [0, 1, 2, 3, 4, 5, 6, 7, 8, 9, 10, 11, 12, 13] rfl)
                        · refine lv_iconst (v := 1) hx hb dL_closes_263 (by decide) ?_
                          refine lv_goto (tgt := 268) hx hb dL_closes_264 (by decide) ?_
                          exact J268 (1 : Int32) (by unfold jL_closes_268_0; rw [if_neg c_12, if_pos c_13, if_pos c_14, if_neg c_15]) _ _ _ hP hD hS (lv_sub hl [0, 1, 2, 3, 4, 5, 6, 7, 8, 9, 10, 11, 12, 13] rfl)
            subst hR9; subst hQ9
            refine L212 14 (lL_closes_156_by1 vk vh vc vg p1 th2 wh2 n1 7 (0 : Int32) (0 : Int32)) (n1 + (1 : Int32)) (by have h9 := zInc (x := n1) (y := (vg ((0 : Int32)).toNatClampNeg)) (by assumption); omega) (by have h9 := zInc (x := n1) (y := (vg ((0 : Int32)).toNatClampNeg)) (by assumption); omega) (fun H locs ls hP hD hS hl => ?_) _ _ _ hP hD hS (lv_sub hl [0, 1, 2, 3, 4, 5, 6, 7, 8, 9, 10, 11, 12, 13] rfl)
            refine lv_aload_n hx hb dL_closes_276 rfl (lv_at hl 11 rfl) ?_
            refine lv_iconst (v := 2) hx hb dL_closes_277 (by decide) ?_
            refine va_iald hx hb hK hP 3 0 rfl rfl (i := (2 : Int32)) (by unfold vp_in; decide) dL_closes_278 ?_
            refine lv_iload hx hb dL_closes_279 (lv_at hl 1 rfl) ?_
            refine zcSi (va_runS (As := [.int (vg ((2 : Int32)).toNatClampNeg), .int ((vc (n1).toNatClampNeg) / (512 : Int32))]) (rest := []) ⟨hx, hb, hml, hown, hts⟩ (c_L_isIn l hfl dC dI cI cJ H.size (vg ((2 : Int32)).toNatClampNeg) ((vc (n1).toNatClampNeg) / (512 : Int32)) ) (va_cwS 2 hts gL_closes_L_isIn rfl rfl rfl (by decide +kernel) ⟨Nat.le_of_ble_eq_true rfl, Nat.le_of_ble_eq_true rfl⟩) (zpS hK hP hD hS hA hG [] (by decide) rfl) rfl rfl hl.1 rfl (lv_room (Nat.le_of_ble_eq_true rfl)) dL_closes_281 ⟨Nat.le_of_ble_eq_true rfl, Nat.le_of_ble_eq_true rfl⟩) ?_
            refine zNm (fun R9 Q9 hR9 hQ9 => ?_)
            have J321 : qL_closes_321_r vk vh vc vg p1 th2 wh2 n1 (fun th2 wh2 n1 => lL_closes_58_r vk vh vc vg p1 n58 th2 wh2 n1) = rL_closes vk vh vc vg p1 → ∀ (H : Heap) (locs : List Loc) (ls : Array Slot), va_P (dC, dI) vwCl [(ak, .inl (cI, 49, .inl vk)), (ah, .inl (cI, 9, .inl vh)), (ac, .inl (cI, 13, .inl vc)), (ag, .inl (cI, 13, .inl vg)), (q1, .inl (cI, 24, .inl th2)), (q2, .inl (cI, 4, .inl wh2))] H → va_D A [(ak, .inl (cI, 49, .inl vk)), (ah, .inl (cI, 9, .inl vh)), (ac, .inl (cI, 13, .inl vc)), (ag, .inl (cI, 13, .inl vg)), (q1, .inl (cI, 24, .inl th2)), (q2, .inl (cI, 4, .inl wh2))] → va_S A s.heap H locs → lv_has ls 14 [(12, .int (lL_closes_212_by2 vk vh vc vg p1 th2 wh2 n1 14 (lL_closes_156_by1 vk vh vc vg p1 th2 wh2 n1 7 (0 : Int32) (0 : Int32)) (n1 + (1 : Int32)))), (11, .int ((vc (n1).toNatClampNeg) / (512 : Int32))), (10, .int (zRem ((vc (n1).toNatClampNeg) / (64 : Int32)) (8 : Int32))), (9, .int (zRem ((vc (n1).toNatClampNeg) / (8 : Int32)) (8 : Int32))), (8, .int (zRem (vc (n1).toNatClampNeg) (8 : Int32))), (7, .int n1), (6, .ref q2), (5, .ref q1), (0, .ref ak), (1, .ref ah), (2, .ref ac), (3, .ref ag), (4, .int p1)] → W p l e R9 s m ([.ref ak, .ref ah, .ref ac, .ref ag, .int p1] : List Value).toArray below meth c H locs 2 28 Q9 (F0 m 321 ls []) := by
              subst hR9; subst hQ9
              intro hj321_r
              intro H locs ls hP hD hS hl
              refine lv_aload hx hb dL_closes_321 (lv_at hl 7 rfl) ?_
              refine lv_iconst (v := 4) hx hb dL_closes_323 (by decide) ?_
              refine lv_iload hx hb dL_closes_324 (lv_at hl 3 rfl) ?_
              refine lv_imul hx hb dL_closes_326 ?_
              refine lv_iload hx hb dL_closes_327 (lv_at hl 1 rfl) ?_
              refine lv_iadd hx hb dL_closes_329 ?_
              refine lv_iconst (v := 1) hx hb dL_closes_330 (by decide) ?_
              refine va_iast hx hb hK hP hD hS 4 0 rfl rfl (i := (((4 : Int32) * (zRem ((vc (n1).toNatClampNeg) / (8 : Int32)) (8 : Int32))) + ((vc (n1).toNatClampNeg) / (512 : Int32)))) (x := (1 : Int32)) (zi4m (hC _ (zin_lt (zin_c (n := 12) hn0 (by assumption) hg0))).2.1 (hC _ (zin_lt (zin_c (n := 12) hn0 (by assumption) hg0))).2.2.2) dL_closes_331 (fun H locs hP hD hS => ?_)
              have hP : va_P (dC, dI) vwCl [(ak, .inl (cI, 49, .inl vk)), (ah, .inl (cI, 9, .inl vh)), (ac, .inl (cI, 13, .inl vc)), (ag, .inl (cI, 13, .inl vg)), (q1, .inl (cI, 24, .inl (upd th2 ((((4 : Int32) * (zRem ((vc (n1).toNatClampNeg) / (8 : Int32)) (8 : Int32))) + ((vc (n1).toNatClampNeg) / (512 : Int32)))).toNatClampNeg (1 : Int32)))), (q2, .inl (cI, 4, .inl wh2))] H := hP
              have hD : va_D A [(ak, .inl (cI, 49, .inl vk)), (ah, .inl (cI, 9, .inl vh)), (ac, .inl (cI, 13, .inl vc)), (ag, .inl (cI, 13, .inl vg)), (q1, .inl (cI, 24, .inl (upd th2 ((((4 : Int32) * (zRem ((vc (n1).toNatClampNeg) / (8 : Int32)) (8 : Int32))) + ((vc (n1).toNatClampNeg) / (512 : Int32)))).toNatClampNeg (1 : Int32)))), (q2, .inl (cI, 4, .inl wh2))] := hD
              refine lv_aload hx hb dL_closes_332 (lv_at hl 7 rfl) ?_
              refine lv_iconst (v := 4) hx hb dL_closes_334 (by decide) ?_
              refine lv_iload hx hb dL_closes_335 (lv_at hl 2 rfl) ?_
              refine lv_imul hx hb dL_closes_337 ?_
              refine lv_iload hx hb dL_closes_338 (lv_at hl 1 rfl) ?_
              refine lv_iadd hx hb dL_closes_340 ?_
              refine lv_iconst (v := 1) hx hb dL_closes_341 (by decide) ?_
              refine va_iast hx hb hK hP hD hS 4 0 rfl rfl (i := (((4 : Int32) * (zRem ((vc (n1).toNatClampNeg) / (64 : Int32)) (8 : Int32))) + ((vc (n1).toNatClampNeg) / (512 : Int32)))) (x := (1 : Int32)) (zi4m (hC _ (zin_lt (zin_c (n := 12) hn0 (by assumption) hg0))).2.2.1 (hC _ (zin_lt (zin_c (n := 12) hn0 (by assumption) hg0))).2.2.2) dL_closes_342 (fun H locs hP hD hS => ?_)
              have hP : va_P (dC, dI) vwCl [(ak, .inl (cI, 49, .inl vk)), (ah, .inl (cI, 9, .inl vh)), (ac, .inl (cI, 13, .inl vc)), (ag, .inl (cI, 13, .inl vg)), (q1, .inl (cI, 24, .inl (upd (upd th2 ((((4 : Int32) * (zRem ((vc (n1).toNatClampNeg) / (8 : Int32)) (8 : Int32))) + ((vc (n1).toNatClampNeg) / (512 : Int32)))).toNatClampNeg (1 : Int32)) ((((4 : Int32) * (zRem ((vc (n1).toNatClampNeg) / (64 : Int32)) (8 : Int32))) + ((vc (n1).toNatClampNeg) / (512 : Int32)))).toNatClampNeg (1 : Int32)))), (q2, .inl (cI, 4, .inl wh2))] H := hP
              have hD : va_D A [(ak, .inl (cI, 49, .inl vk)), (ah, .inl (cI, 9, .inl vh)), (ac, .inl (cI, 13, .inl vc)), (ag, .inl (cI, 13, .inl vg)), (q1, .inl (cI, 24, .inl (upd (upd th2 ((((4 : Int32) * (zRem ((vc (n1).toNatClampNeg) / (8 : Int32)) (8 : Int32))) + ((vc (n1).toNatClampNeg) / (512 : Int32)))).toNatClampNeg (1 : Int32)) ((((4 : Int32) * (zRem ((vc (n1).toNatClampNeg) / (64 : Int32)) (8 : Int32))) + ((vc (n1).toNatClampNeg) / (512 : Int32)))).toNatClampNeg (1 : Int32)))), (q2, .inl (cI, 4, .inl wh2))] := hD
              refine lv_goto (tgt := 387) hx hb dL_closes_343 (by decide) ?_
              refine lv_iinc (v := (n1 + 1)) (lv' := [(7, .int (n1 + 1)), (12, .int (lL_closes_212_by2 vk vh vc vg p1 th2 wh2 n1 14 (lL_closes_156_by1 vk vh vc vg p1 th2 wh2 n1 7 (0 : Int32) (0 : Int32)) (n1 + (1 : Int32)))), (11, .int ((vc (n1).toNatClampNeg) / (512 : Int32))), (10, .int (zRem ((vc (n1).toNatClampNeg) / (64 : Int32)) (8 : Int32))), (9, .int (zRem ((vc (n1).toNatClampNeg) / (8 : Int32)) (8 : Int32))), (8, .int (zRem (vc (n1).toNatClampNeg) (8 : Int32))), (6, .ref q2), (5, .ref q1), (0, .ref ak), (1, .ref ah), (2, .ref ac), (3, .ref ag), (4, .int p1)]) hx hb dL_closes_387 hl (k := 5) rfl rfl (by decide) rfl (fun ls hl => ?_)
              refine lv_goto (tgt := 58) hx hb dL_closes_390 (by decide) ?_
              exact ih58 (upd (upd th2 ((((4 : Int32) * (zRem ((vc (n1).toNatClampNeg) / (8 : Int32)) (8 : Int32))) + ((vc (n1).toNatClampNeg) / (512 : Int32)))).toNatClampNeg (1 : Int32)) ((((4 : Int32) * (zRem ((vc (n1).toNatClampNeg) / (64 : Int32)) (8 : Int32))) + ((vc (n1).toNatClampNeg) / (512 : Int32)))).toNatClampNeg (1 : Int32)) wh2 (n1 + 1) (by have h9 := zInc (x := n1) (y := (vg ((0 : Int32)).toNatClampNeg)) (by assumption); omega) (by have h9 := zInc (x := n1) (y := (vg ((0 : Int32)).toNatClampNeg)) (by assumption); have h8 := zGo (x := n1) (y := (vg ((0 : Int32)).toNatClampNeg)) (by assumption); omega) (by rw [← hj321_r]; unfold qL_closes_321_r; rfl) _ _ _ hP hD hS (lv_sub hl [0, 6, 7, 8, 9, 10, 11, 12] rfl)
            subst hR9; subst hQ9
            refine lv_if_ne (tgt := 319) hx hb dL_closes_284 (by decide) (fun c_16 => ?_) (fun c_16 => ?_)
            · refine lv_iconst (v := 0) hx hb dL_closes_319 (by decide) ?_
              refine W.widen (k := 2) (n := 28) (by decide) (by decide) ?_
              exact W.zret (v := (0 : Int32)) hx hb hr (zNar (Or.inl rfl)) (fun t ht hW => ⟨⟨(0 : Int32), (), rfl, (by rw [← hj145_r]; unfold qL_closes_145_r; rw [if_pos c_3, if_neg c_16]), (by rw [ht]; exact hP.sub [0, 1, 2, 3] rfl), va_K.moved hW.alike hK, hD.sub [0, 1, 2, 3] (by decide) rfl⟩, hS.F ht⟩) hS.2.2 dL_closes_320
            · refine lv_aload hx hb dL_closes_287 (lv_at hl 7 rfl) ?_
              refine lv_iconst (v := 4) hx hb dL_closes_289 (by decide) ?_
              refine lv_iload hx hb dL_closes_290 (lv_at hl 2 rfl) ?_
              refine lv_imul hx hb dL_closes_292 ?_
              refine lv_iload hx hb dL_closes_293 (lv_at hl 1 rfl) ?_
              refine lv_iadd hx hb dL_closes_295 ?_
              refine va_iald hx hb hK hP 4 0 rfl rfl (i := (((4 : Int32) * (zRem ((vc (n1).toNatClampNeg) / (64 : Int32)) (8 : Int32))) + ((vc (n1).toNatClampNeg) / (512 : Int32)))) (zi4m (hC _ (zin_lt (zin_c (n := 12) hn0 (by assumption) hg0))).2.2.1 (hC _ (zin_lt (zin_c (n := 12) hn0 (by assumption) hg0))).2.2.2) dL_closes_296 ?_
              refine lv_iconst (v := 1) hx hb dL_closes_297 (by decide) ?_
              refine lv_icmp_eq (tgt := 319) hx hb dL_closes_298 (by decide) (fun c_17 => ?_) (fun c_17 => ?_)
              · refine lv_iconst (v := 0) hx hb dL_closes_319 (by decide) ?_
                refine W.widen (k := 2) (n := 28) (by decide) (by decide) ?_
                exact W.zret (v := (0 : Int32)) hx hb hr (zNar (Or.inl rfl)) (fun t ht hW => ⟨⟨(0 : Int32), (), rfl, (by rw [← hj145_r]; unfold qL_closes_145_r; rw [if_pos c_3, if_pos c_16, if_pos c_17]), (by rw [ht]; exact hP.sub [0, 1, 2, 3] rfl), va_K.moved hW.alike hK, hD.sub [0, 1, 2, 3] (by decide) rfl⟩, hS.F ht⟩) hS.2.2 dL_closes_320
              · refine lv_aload hx hb dL_closes_301 (lv_at hl 7 rfl) ?_
                refine lv_iconst (v := 4) hx hb dL_closes_303 (by decide) ?_
                refine lv_iload hx hb dL_closes_304 (lv_at hl 3 rfl) ?_
                refine lv_imul hx hb dL_closes_306 ?_
                refine lv_iload hx hb dL_closes_307 (lv_at hl 1 rfl) ?_
                refine lv_iadd hx hb dL_closes_309 ?_
                refine va_iald hx hb hK hP 4 0 rfl rfl (i := (((4 : Int32) * (zRem ((vc (n1).toNatClampNeg) / (8 : Int32)) (8 : Int32))) + ((vc (n1).toNatClampNeg) / (512 : Int32)))) (zi4m (hC _ (zin_lt (zin_c (n := 12) hn0 (by assumption) hg0))).2.1 (hC _ (zin_lt (zin_c (n := 12) hn0 (by assumption) hg0))).2.2.2) dL_closes_310 ?_
                refine lv_if_ne (tgt := 321) hx hb dL_closes_311 (by decide) (fun c_18 => ?_) (fun c_18 => ?_)
                · exact J321 (by rw [← hj145_r]; unfold qL_closes_145_r; rw [if_pos c_3, if_pos c_16, if_neg c_17, if_neg c_18]) _ _ _ hP hD hS (lv_sub hl [0, 1, 2, 3, 4, 5, 6, 7, 8, 9, 10, 11, 12] rfl)
                · refine lv_iload hx hb dL_closes_314 (lv_at hl 0 rfl) ?_
                  refine lv_if_ne (tgt := 321) hx hb dL_closes_316 (by decide) (fun c_19 => ?_) (fun c_19 => ?_)
                  · exact J321 (by rw [← hj145_r]; unfold qL_closes_145_r; rw [if_pos c_3, if_pos c_16, if_neg c_17, if_pos c_18, if_neg c_19]) _ _ _ hP hD hS (lv_sub hl [0, 1, 2, 3, 4, 5, 6, 7, 8, 9, 10, 11, 12] rfl)
                  · refine lv_iconst (v := 0) hx hb dL_closes_319 (by decide) ?_
                    refine W.widen (k := 2) (n := 28) (by decide) (by decide) ?_
                    exact W.zret (v := (0 : Int32)) hx hb hr (zNar (Or.inl rfl)) (fun t ht hW => ⟨⟨(0 : Int32), (), rfl, (by rw [← hj145_r]; unfold qL_closes_145_r; rw [if_pos c_3, if_pos c_16, if_neg c_17, if_pos c_18, if_pos c_19]), (by rw [ht]; exact hP.sub [0, 1, 2, 3] rfl), va_K.moved hW.alike hK, hD.sub [0, 1, 2, 3] (by decide) rfl⟩, hS.F ht⟩) hS.2.2 dL_closes_320
        subst hR9; subst hQ9
        refine lv_if_ne (tgt := 143) hx hb dL_closes_117 (by decide) (fun c_20 => ?_) (fun c_20 => ?_)
        · refine lv_iconst (v := 0) hx hb dL_closes_143 (by decide) ?_
          refine W.widen (k := 2) (n := 28) (by decide) (by decide) ?_
          exact W.zret (v := (0 : Int32)) hx hb hr (zNar (Or.inl rfl)) (fun t ht hW => ⟨⟨(0 : Int32), (), rfl, (by rw [← hres58_r]; rw [lL_closes_58_r]; rw [if_neg c_2, if_neg c_20]), (by rw [ht]; exact hP.sub [0, 1, 2, 3] rfl), va_K.moved hW.alike hK, hD.sub [0, 1, 2, 3] (by decide) rfl⟩, hS.F ht⟩) hS.2.2 dL_closes_144
        · refine lv_aload_n hx hb dL_closes_120 rfl (lv_at hl 10 rfl) ?_
          refine lv_iconst (v := 1) hx hb dL_closes_121 (by decide) ?_
          refine va_iald hx hb hK hP 3 0 rfl rfl (i := (1 : Int32)) (by unfold vp_in; decide) dL_closes_122 ?_
          refine lv_iload hx hb dL_closes_123 (lv_at hl 1 rfl) ?_
          refine zcSi (va_runS (As := [.int (vg ((1 : Int32)).toNatClampNeg), .int (zRem ((vc (n1).toNatClampNeg) / (64 : Int32)) (8 : Int32))]) (rest := []) ⟨hx, hb, hml, hown, hts⟩ (c_L_isIn l hfl dC dI cI cJ H.size (vg ((1 : Int32)).toNatClampNeg) (zRem ((vc (n1).toNatClampNeg) / (64 : Int32)) (8 : Int32)) ) (va_cwS 2 hts gL_closes_L_isIn rfl rfl rfl (by decide +kernel) ⟨Nat.le_of_ble_eq_true rfl, Nat.le_of_ble_eq_true rfl⟩) (zpS hK hP hD hS hA hG [] (by decide) rfl) rfl rfl hl.1 rfl (lv_room (Nat.le_of_ble_eq_true rfl)) dL_closes_125 ⟨Nat.le_of_ble_eq_true rfl, Nat.le_of_ble_eq_true rfl⟩) ?_
          refine lv_if_eq (tgt := 145) hx hb dL_closes_128 (by decide) (fun c_21 => ?_) (fun c_21 => ?_)
          · exact J145 (by rw [← hres58_r]; rw [lL_closes_58_r]; rw [if_neg c_2, if_pos c_20, if_pos c_21]) _ _ _ hP hD hS (lv_sub hl [0, 1, 2, 3, 4, 5, 6, 7, 8, 9, 10, 11] rfl)
          · refine lv_iload hx hb dL_closes_131 (lv_at hl 3 rfl) ?_
            refine lv_iconst (v := 2) hx hb dL_closes_133 (by decide) ?_
            refine lv_icmp_eq (tgt := 145) hx hb dL_closes_134 (by decide) (fun c_22 => ?_) (fun c_22 => ?_)
            · exact J145 (by rw [← hres58_r]; rw [lL_closes_58_r]; rw [if_neg c_2, if_pos c_20, if_neg c_21, if_pos c_22]) _ _ _ hP hD hS (lv_sub hl [0, 1, 2, 3, 4, 5, 6, 7, 8, 9, 10, 11] rfl)
            · refine lv_iload hx hb dL_closes_137 (lv_at hl 3 rfl) ?_
              refine lv_iconst (v := 3) hx hb dL_closes_139 (by decide) ?_
              refine lv_icmp_eq (tgt := 145) hx hb dL_closes_140 (by decide) (fun c_23 => ?_) (fun c_23 => ?_)
              · exact J145 (by rw [← hres58_r]; rw [lL_closes_58_r]; rw [if_neg c_2, if_pos c_20, if_neg c_21, if_neg c_22, if_pos c_23]) _ _ _ hP hD hS (lv_sub hl [0, 1, 2, 3, 4, 5, 6, 7, 8, 9, 10, 11] rfl)
              · refine lv_iconst (v := 0) hx hb dL_closes_143 (by decide) ?_
                refine W.widen (k := 2) (n := 28) (by decide) (by decide) ?_
                exact W.zret (v := (0 : Int32)) hx hb hr (zNar (Or.inl rfl)) (fun t ht hW => ⟨⟨(0 : Int32), (), rfl, (by rw [← hres58_r]; rw [lL_closes_58_r]; rw [if_neg c_2, if_pos c_20, if_neg c_21, if_neg c_22, if_neg c_23]), (by rw [ht]; exact hP.sub [0, 1, 2, 3] rfl), va_K.moved hW.alike hK, hD.sub [0, 1, 2, 3] (by decide) rfl⟩, hS.F ht⟩) hS.2.2 dL_closes_144
  subst hR9; subst hQ9
  exact L58 14 (lL_closes_14_th1 vk vh vc vg p1 25 (fun _ => (0 : Int32)) (fun _ => (0 : Int32)) (0 : Int32)) (lL_closes_14_wh1 vk vh vc vg p1 25 (fun _ => (0 : Int32)) (fun _ => (0 : Int32)) (0 : Int32)) p1 hf0 (by omega) (by unfold rL_closes; rfl) _ _ _ hP hD hS (lv_sub hl [0, 1, 2, 3, 4, 5, 6, 7] rfl)

/-! L_way -/
def jL_way_272_0 (vk : Nat → Int32) (vh : Nat → Int32) (vc : Nat → Int32) (vg : Nat → Int32) (mo1 : Int32) (m1 : Int32) : Int32 := (if (vk ((((24 : Int32) + ((4 : Int32) * m1)) + ((vc ((vg ((7 : Int32)).toNatClampNeg)).toNatClampNeg) / (512 : Int32)))).toNatClampNeg) = (1 : Int32) then (if (rL_isIn (vg ((9 : Int32)).toNatClampNeg) m1) = 0 then mo1 else (1 : Int32)) else mo1)
def jL_way_203_0 (vk : Nat → Int32) (vh : Nat → Int32) (vc : Nat → Int32) (vg : Nat → Int32) : Int32 := (if ((vh (((4 : Int32) + ((vc ((vg ((7 : Int32)).toNatClampNeg)).toNatClampNeg) / (512 : Int32)))).toNatClampNeg) - (1 : Int32)) < 0 then (1 : Int32) else (if ((vh (((4 : Int32) + ((vc ((vg ((7 : Int32)).toNatClampNeg)).toNatClampNeg) / (512 : Int32)))).toNatClampNeg) - (1 : Int32)) = (zRem ((vc ((vg ((7 : Int32)).toNatClampNeg)).toNatClampNeg) / (64 : Int32)) (8 : Int32)) then (1 : Int32) else (if (rL_isIn (vg ((9 : Int32)).toNatClampNeg) ((vh (((4 : Int32) + ((vc ((vg ((7 : Int32)).toNatClampNeg)).toNatClampNeg) / (512 : Int32)))).toNatClampNeg) - (1 : Int32))) = 0 then (2 : Int32) else (1 : Int32))))
def jL_way_205_0 (vk : Nat → Int32) (vh : Nat → Int32) (vc : Nat → Int32) (vg : Nat → Int32) : Int32 := (if (zRem (vc ((vg ((7 : Int32)).toNatClampNeg)).toNatClampNeg) (8 : Int32)) = (1 : Int32) then (if (vh (((4 : Int32) + ((vc ((vg ((7 : Int32)).toNatClampNeg)).toNatClampNeg) / (512 : Int32)))).toNatClampNeg) = ((zRem ((vc ((vg ((7 : Int32)).toNatClampNeg)).toNatClampNeg) / (8 : Int32)) (8 : Int32)) + (1 : Int32)) then (0 : Int32) else (jL_way_203_0 vk vh vc vg)) else (0 : Int32))
def jL_way_110_0 (vk : Nat → Int32) (vh : Nat → Int32) (vc : Nat → Int32) (vg : Nat → Int32) : Int32 := (if (rL_isIn (vg ((9 : Int32)).toNatClampNeg) (zRem ((vc ((vg ((7 : Int32)).toNatClampNeg)).toNatClampNeg) / (64 : Int32)) (8 : Int32))) = 0 then (1 : Int32) else (0 : Int32))
theorem bjL_way_110_0 (vk : Nat → Int32) (vh : Nat → Int32) (vc : Nat → Int32) (vg : Nat → Int32) : jL_way_110_0 vk vh vc vg = 0 ∨ jL_way_110_0 vk vh vc vg = 1 := by
  unfold jL_way_110_0
  repeat' split
  all_goals first | exact Or.inl rfl | exact Or.inr rfl
def jL_way_91_0 (vk : Nat → Int32) (vh : Nat → Int32) (vc : Nat → Int32) (vg : Nat → Int32) : Int32 := (if (rL_isIn (vg ((9 : Int32)).toNatClampNeg) (zRem ((vc ((vg ((7 : Int32)).toNatClampNeg)).toNatClampNeg) / (8 : Int32)) (8 : Int32))) = 0 then (1 : Int32) else (0 : Int32))
theorem bjL_way_91_0 (vk : Nat → Int32) (vh : Nat → Int32) (vc : Nat → Int32) (vg : Nat → Int32) : jL_way_91_0 vk vh vc vg = 0 ∨ jL_way_91_0 vk vh vc vg = 1 := by
  unfold jL_way_91_0
  repeat' split
  all_goals first | exact Or.inl rfl | exact Or.inr rfl
def lL_way_231_mo1 (vk : Nat → Int32) (vh : Nat → Int32) (vc : Nat → Int32) (vg : Nat → Int32) : Nat → (Int32) → (Int32) → (Int32)
  | 0, mo1, m1 => mo1
  | n231 + 1, mo1, m1 => (if (6 : Int32) ≤ m1 then mo1 else (lL_way_231_mo1 vk vh vc vg n231 (jL_way_272_0 vk vh vc vg mo1 m1) (m1 + 1)))
def jL_way_280_0 (vk : Nat → Int32) (vh : Nat → Int32) (vc : Nat → Int32) (vg : Nat → Int32) : Int32 := (if (zRem (vc ((vg ((7 : Int32)).toNatClampNeg)).toNatClampNeg) (8 : Int32)) = 0 then (if (vk ((((24 : Int32) + ((4 : Int32) * (zRem ((vc ((vg ((7 : Int32)).toNatClampNeg)).toNatClampNeg) / (8 : Int32)) (8 : Int32)))) + ((vc ((vg ((7 : Int32)).toNatClampNeg)).toNatClampNeg) / (512 : Int32)))).toNatClampNeg) = 0 then (lL_way_231_mo1 vk vh vc vg 7 (2 : Int32) (0 : Int32)) else (jL_way_205_0 vk vh vc vg)) else (jL_way_205_0 vk vh vc vg))
def rL_way (vk : Nat → Int32) (vh : Nat → Int32) (vc : Nat → Int32) (vg : Nat → Int32) : Int32 := (if (vg ((4 : Int32)).toNatClampNeg) = (1 : Int32) then (if (rL_closes vk vh vc vg (vg ((7 : Int32)).toNatClampNeg)) = 0 then (-1 : Int32) else (if (zRem (vc ((vg ((7 : Int32)).toNatClampNeg)).toNatClampNeg) (8 : Int32)) = (2 : Int32) then (if (zRem (vc ((vg ((7 : Int32)).toNatClampNeg)).toNatClampNeg) (8 : Int32)) = (2 : Int32) then ((2 : Int32) - (jL_way_91_0 vk vh vc vg)) else ((1 : Int32) + (jL_way_91_0 vk vh vc vg))) else (if (zRem (vc ((vg ((7 : Int32)).toNatClampNeg)).toNatClampNeg) (8 : Int32)) = (3 : Int32) then (if (zRem (vc ((vg ((7 : Int32)).toNatClampNeg)).toNatClampNeg) (8 : Int32)) = (2 : Int32) then ((2 : Int32) - (jL_way_91_0 vk vh vc vg)) else ((1 : Int32) + (jL_way_91_0 vk vh vc vg))) else ((((1 : Int32) + (jL_way_91_0 vk vh vc vg)) + (jL_way_110_0 vk vh vc vg)) + (jL_way_280_0 vk vh vc vg))))) else (-1 : Int32))
set_option maxHeartbeats 4300000 in
set_option maxRecDepth 100000 in
theorem c_L_way (l : Launch) (hfl : l.stackTraces = false) (dC : Nat → ClassId) (dI : Nat → Nat → Nat) (cI cJ : ClassId) (ak ah ac ag : Nat) (sz : Nat) (vk : Nat → Int32) (vh : Nat → Int32) (vc : Nat → Int32) (vg : Nat → Int32) (hC : ∀ j : Nat, j < 12 → zCg (vc j)) (hg0 : (vg ((0 : Int32)).toNatClampNeg).toInt ≤ 12) (hW7 : (vg ((4 : Int32)).toNatClampNeg) = (1 : Int32) → ¬ (rL_closes vk vh vc vg (vg ((7 : Int32)).toNatClampNeg)) = 0 → vp_in ((vc ((vg ((7 : Int32)).toNatClampNeg)).toNatClampNeg) / (512 : Int32)) 4) (hp15_hf0 : (vg ((4 : Int32)).toNatClampNeg) = (1 : Int32) → 0 ≤ (vg ((7 : Int32)).toNatClampNeg).toInt) (hi28 : (vg ((4 : Int32)).toNatClampNeg) = (1 : Int32) → ¬ (rL_closes vk vh vc vg (vg ((7 : Int32)).toNatClampNeg)) = 0 → vp_in (vg ((7 : Int32)).toNatClampNeg) 13) (hi39 : (vg ((4 : Int32)).toNatClampNeg) = (1 : Int32) → ¬ (rL_closes vk vh vc vg (vg ((7 : Int32)).toNatClampNeg)) = 0 → vp_in (vg ((7 : Int32)).toNatClampNeg) 13) (hi53 : (vg ((4 : Int32)).toNatClampNeg) = (1 : Int32) → ¬ (rL_closes vk vh vc vg (vg ((7 : Int32)).toNatClampNeg)) = 0 → vp_in (vg ((7 : Int32)).toNatClampNeg) 13) (hi67 : (vg ((4 : Int32)).toNatClampNeg) = (1 : Int32) → ¬ (rL_closes vk vh vc vg (vg ((7 : Int32)).toNatClampNeg)) = 0 → vp_in (vg ((7 : Int32)).toNatClampNeg) 13) (hi156 : (vg ((4 : Int32)).toNatClampNeg) = (1 : Int32) → ¬ (rL_closes vk vh vc vg (vg ((7 : Int32)).toNatClampNeg)) = 0 → ¬ (zRem (vc ((vg ((7 : Int32)).toNatClampNeg)).toNatClampNeg) (8 : Int32)) = (2 : Int32) → ¬ (zRem (vc ((vg ((7 : Int32)).toNatClampNeg)).toNatClampNeg) (8 : Int32)) = (3 : Int32) → (zRem (vc ((vg ((7 : Int32)).toNatClampNeg)).toNatClampNeg) (8 : Int32)) = (1 : Int32) → vp_in ((4 : Int32) + ((vc ((vg ((7 : Int32)).toNatClampNeg)).toNatClampNeg) / (512 : Int32))) 9) (hi169 : (vg ((4 : Int32)).toNatClampNeg) = (1 : Int32) → ¬ (rL_closes vk vh vc vg (vg ((7 : Int32)).toNatClampNeg)) = 0 → ¬ (zRem (vc ((vg ((7 : Int32)).toNatClampNeg)).toNatClampNeg) (8 : Int32)) = (2 : Int32) → ¬ (zRem (vc ((vg ((7 : Int32)).toNatClampNeg)).toNatClampNeg) (8 : Int32)) = (3 : Int32) → (zRem (vc ((vg ((7 : Int32)).toNatClampNeg)).toNatClampNeg) (8 : Int32)) = (1 : Int32) → ¬ (vh (((4 : Int32) + ((vc ((vg ((7 : Int32)).toNatClampNeg)).toNatClampNeg) / (512 : Int32)))).toNatClampNeg) = ((zRem ((vc ((vg ((7 : Int32)).toNatClampNeg)).toNatClampNeg) / (8 : Int32)) (8 : Int32)) + (1 : Int32)) → vp_in ((4 : Int32) + ((vc ((vg ((7 : Int32)).toNatClampNeg)).toNatClampNeg) / (512 : Int32))) 9) (hi221 : (vg ((4 : Int32)).toNatClampNeg) = (1 : Int32) → ¬ (rL_closes vk vh vc vg (vg ((7 : Int32)).toNatClampNeg)) = 0 → ¬ (zRem (vc ((vg ((7 : Int32)).toNatClampNeg)).toNatClampNeg) (8 : Int32)) = (2 : Int32) → ¬ (zRem (vc ((vg ((7 : Int32)).toNatClampNeg)).toNatClampNeg) (8 : Int32)) = (3 : Int32) → (zRem (vc ((vg ((7 : Int32)).toNatClampNeg)).toNatClampNeg) (8 : Int32)) = 0 → vp_in (((24 : Int32) + ((4 : Int32) * (zRem ((vc ((vg ((7 : Int32)).toNatClampNeg)).toNatClampNeg) / (8 : Int32)) (8 : Int32)))) + ((vc ((vg ((7 : Int32)).toNatClampNeg)).toNatClampNeg) / (512 : Int32))) 49) : Met l yL_way wsL_way ({ frames := 2, cells := 2, slots := 28, locals := 54 }) (va_Pc [.ref ak, .ref ah, .ref ac, .ref ag] (zI (dC, dI) [(cI, .int), (cJ, .long)] [(ak, .inl (cI, 49, .inl vk)), (ah, .inl (cI, 9, .inl vh)), (ac, .inl (cI, 13, .inl vc)), (ag, .inl (cI, 13, .inl vg))] sz)) (va_Qi (fun (r : Int32) (u : Unit) => r = rL_way vk vh vc vg) (fun u => zO (dC, dI) [(cI, .int), (cJ, .long)] [(ak, .inl (cI, 49, .inl vk)), (ah, .inl (cI, 9, .inl vh)), (ac, .inl (cI, 13, .inl vc)), (ag, .inl (cI, 13, .inl vg))] (va_A [(ak, .inl (cI, 49, .inl vk)), (ah, .inl (cI, 9, .inl vh)), (ac, .inl (cI, 13, .inl vc)), (ag, .inl (cI, 13, .inl vg))] sz)) (va_A [(ak, .inl (cI, 49, .inl vk)), (ah, .inl (cI, 9, .inl vh)), (ac, .inl (cI, 13, .inl vc)), (ag, .inl (cI, 13, .inl vg))] sz)) 2 28 (va_A [(ak, .inl (cI, 49, .inl vk)), (ah, .inl (cI, 9, .inl vh)), (ac, .inl (cI, 13, .inl vc)), (ag, .inl (cI, 13, .inl vg))] sz) := by
  refine Met.ofW (cc := cL_way) (maxL := 12) (ret := (some .int)) (by decide) rfl ?_
  intro p e s m args below meth c s₁ B hml hv
  obtain ⟨rfl, hsz, hP, hK, hD0, hG⟩ := hv
  have hx := B.exec
  have hb := B.bytes
  have hr := B.returns
  have hts := atoms_spec (ws := wsL_way) B.pre
  have hown : s.vm.findClass RL = some m.cls := findClass_of_methodNamed B.named
  have hlocks := B.notSynchronized
  subst hsz
  have hD := hD0.self (sz := s.heap.size)
  generalize hAe : va_A [(ak, .inl (cI, 49, .inl vk)), (ah, .inl (cI, 9, .inl vh)), (ac, .inl (cI, 13, .inl vc)), (ag, .inl (cI, 13, .inl vg))] s.heap.size = A at hD hG ⊢
  have hA : ∀ q : Nat, s.heap.size ≤ q → A q := fun q h => by rw [← hAe]; exact Or.inr h
  have hS : va_S A s.heap s.heap [] := va_S.rf
  have hP : va_P (dC, dI) vwCl [(ak, .inl (cI, 49, .inl vk)), (ah, .inl (cI, 9, .inl vh)), (ac, .inl (cI, 13, .inl vc)), (ag, .inl (cI, 13, .inl vg))] s.heap := hP
  have hl := lv_entry ([.ref ak, .ref ah, .ref ac, .ref ag]) (n := 12) (Nat.le_of_ble_eq_true rfl)
  rw [lg_entry_eq]
  generalize (lg_sl ([.ref ak, .ref ah, .ref ac, .ref ag]) ++ List.replicate (12 - (lg_sl ([.ref ak, .ref ah, .ref ac, .ref ag])).length) Slot.unset).toArray = ls at hl ⊢
  have hl : lv_has ls 12 [(0, .ref ak), (1, .ref ah), (2, .ref ac), (3, .ref ag)] := hl
  refine lv_aload_n hx hb dL_way_0 rfl (lv_at hl 3 rfl) ?_
  refine lv_iconst (v := 4) hx hb dL_way_1 (by decide) ?_
  refine va_iald hx hb hK hP 3 0 rfl rfl (i := (4 : Int32)) (by unfold vp_in; decide) dL_way_2 ?_
  refine lv_iconst (v := 1) hx hb dL_way_3 (by decide) ?_
  refine lv_icmp_ne (tgt := 21) hx hb dL_way_4 (by decide) (fun c_1 => ?_) (fun c_1 => ?_)
  · refine lv_iconst (v := -1) hx hb dL_way_21 (by decide) ?_
    refine W.widen (k := 2) (n := 28) (by decide) (by decide) ?_
    exact W.iret (v := (-1 : Int32)) hx hb hr (fun t ht hW => ⟨⟨(-1 : Int32), (), rfl, (by unfold rL_way; rw [if_neg c_1]), (by rw [ht]; exact hP.sub [0, 1, 2, 3] rfl), va_K.moved hW.alike hK, hD.sub [0, 1, 2, 3] (by decide) rfl⟩, hS.F ht⟩) hS.2.2 dL_way_22
  · refine lv_aload_n hx hb dL_way_7 rfl (lv_at hl 0 rfl) ?_
    refine lv_aload_n hx hb dL_way_8 rfl (lv_at hl 1 rfl) ?_
    refine lv_aload_n hx hb dL_way_9 rfl (lv_at hl 2 rfl) ?_
    refine lv_aload_n hx hb dL_way_10 rfl (lv_at hl 3 rfl) ?_
    refine lv_aload_n hx hb dL_way_11 rfl (lv_at hl 3 rfl) ?_
    refine lv_bipush (v := 7) hx hb dL_way_12 (by decide) ?_
    refine va_iald hx hb hK hP 3 0 rfl rfl (i := (7 : Int32)) (by unfold vp_in; decide) dL_way_14 ?_
    refine zkI (wr := []) (r0 := (rL_closes vk vh vc vg (vg ((7 : Int32)).toNatClampNeg))) (u0 := ()) (va_runS (As := [.ref ak, .ref ah, .ref ac, .ref ag, .int (vg ((7 : Int32)).toNatClampNeg)]) (rest := []) ⟨hx, hb, hml, hown, hts⟩ (c_L_closes l hfl dC dI cI cJ ak ah ac ag s.heap.size vk vh vc vg (vg ((7 : Int32)).toNatClampNeg) (by assumption) (by assumption) (hp15_hf0 c_1)) (va_cwS 5 hts gL_way_L_closes rfl rfl rfl (by decide +kernel) ⟨Nat.le_of_ble_eq_true rfl, Nat.le_of_ble_eq_true rfl⟩) (zpS hK hP hD hS hA hG [0, 1, 2, 3] (by decide) rfl) rfl rfl hl.1 rfl (lv_room (Nat.le_of_ble_eq_true rfl)) dL_way_15 ⟨Nat.le_of_ble_eq_true rfl, Nat.le_of_ble_eq_true rfl⟩) (fun r u h => ⟨h, rfl⟩) hP hD hS hA [0, 1, 2, 3] [] rfl rfl (by decide) (by decide) (fun H locs hP hD hS => ?_)
    try dsimp only [List.cons_append, List.nil_append] at hP hD
    have hP : va_P (dC, dI) vwCl [(ak, .inl (cI, 49, .inl vk)), (ah, .inl (cI, 9, .inl vh)), (ac, .inl (cI, 13, .inl vc)), (ag, .inl (cI, 13, .inl vg))] H := hP
    have hD : va_D A [(ak, .inl (cI, 49, .inl vk)), (ah, .inl (cI, 9, .inl vh)), (ac, .inl (cI, 13, .inl vc)), (ag, .inl (cI, 13, .inl vg))] := hD
    refine W.widen (k := 2) (n := 28) (by decide) (by decide) ?_
    refine lv_if_ne (tgt := 23) hx hb dL_way_18 (by decide) (fun c_2 => ?_) (fun c_2 => ?_)
    · refine lv_aload_n hx hb dL_way_23 rfl (lv_at hl 2 rfl) ?_
      refine lv_aload_n hx hb dL_way_24 rfl (lv_at hl 3 rfl) ?_
      refine lv_bipush (v := 7) hx hb dL_way_25 (by decide) ?_
      refine va_iald hx hb hK hP 3 0 rfl rfl (i := (7 : Int32)) (by unfold vp_in; decide) dL_way_27 ?_
      refine va_iald hx hb hK hP 2 0 rfl rfl (i := (vg ((7 : Int32)).toNatClampNeg)) (hi28 c_1 c_2) dL_way_28 ?_
      refine lv_bipush (v := 8) hx hb dL_way_29 (by decide) ?_
      refine zvRem hx hb dL_way_31 (by decide) ?_
      refine lv_istore (lv' := [(4, .int (zRem (vc ((vg ((7 : Int32)).toNatClampNeg)).toNatClampNeg) (8 : Int32))), (0, .ref ak), (1, .ref ah), (2, .ref ac), (3, .ref ag)]) hx hb dL_way_32 hl (by decide) rfl (fun ls hl => ?_)
      refine lv_aload_n hx hb dL_way_34 rfl (lv_at hl 3 rfl) ?_
      refine lv_aload_n hx hb dL_way_35 rfl (lv_at hl 4 rfl) ?_
      refine lv_bipush (v := 7) hx hb dL_way_36 (by decide) ?_
      refine va_iald hx hb hK hP 3 0 rfl rfl (i := (7 : Int32)) (by unfold vp_in; decide) dL_way_38 ?_
      refine va_iald hx hb hK hP 2 0 rfl rfl (i := (vg ((7 : Int32)).toNatClampNeg)) (hi39 c_1 c_2) dL_way_39 ?_
      refine lv_bipush (v := 8) hx hb dL_way_40 (by decide) ?_
      refine lv_idiv hx hb dL_way_42 (by decide) ?_
      refine lv_bipush (v := 8) hx hb dL_way_43 (by decide) ?_
      refine zvRem hx hb dL_way_45 (by decide) ?_
      refine lv_istore (lv' := [(5, .int (zRem ((vc ((vg ((7 : Int32)).toNatClampNeg)).toNatClampNeg) / (8 : Int32)) (8 : Int32))), (4, .int (zRem (vc ((vg ((7 : Int32)).toNatClampNeg)).toNatClampNeg) (8 : Int32))), (0, .ref ak), (1, .ref ah), (2, .ref ac), (3, .ref ag)]) hx hb dL_way_46 hl (by decide) rfl (fun ls hl => ?_)
      refine lv_aload_n hx hb dL_way_48 rfl (lv_at hl 4 rfl) ?_
      refine lv_aload_n hx hb dL_way_49 rfl (lv_at hl 5 rfl) ?_
      refine lv_bipush (v := 7) hx hb dL_way_50 (by decide) ?_
      refine va_iald hx hb hK hP 3 0 rfl rfl (i := (7 : Int32)) (by unfold vp_in; decide) dL_way_52 ?_
      refine va_iald hx hb hK hP 2 0 rfl rfl (i := (vg ((7 : Int32)).toNatClampNeg)) (hi53 c_1 c_2) dL_way_53 ?_
      refine lv_bipush (v := 64) hx hb dL_way_54 (by decide) ?_
      refine lv_idiv hx hb dL_way_56 (by decide) ?_
      refine lv_bipush (v := 8) hx hb dL_way_57 (by decide) ?_
      refine zvRem hx hb dL_way_59 (by decide) ?_
      refine lv_istore (lv' := [(6, .int (zRem ((vc ((vg ((7 : Int32)).toNatClampNeg)).toNatClampNeg) / (64 : Int32)) (8 : Int32))), (5, .int (zRem ((vc ((vg ((7 : Int32)).toNatClampNeg)).toNatClampNeg) / (8 : Int32)) (8 : Int32))), (4, .int (zRem (vc ((vg ((7 : Int32)).toNatClampNeg)).toNatClampNeg) (8 : Int32))), (0, .ref ak), (1, .ref ah), (2, .ref ac), (3, .ref ag)]) hx hb dL_way_60 hl (by decide) rfl (fun ls hl => ?_)
      refine lv_aload_n hx hb dL_way_62 rfl (lv_at hl 5 rfl) ?_
      refine lv_aload_n hx hb dL_way_63 rfl (lv_at hl 6 rfl) ?_
      refine lv_bipush (v := 7) hx hb dL_way_64 (by decide) ?_
      refine va_iald hx hb hK hP 3 0 rfl rfl (i := (7 : Int32)) (by unfold vp_in; decide) dL_way_66 ?_
      refine va_iald hx hb hK hP 2 0 rfl rfl (i := (vg ((7 : Int32)).toNatClampNeg)) (hi67 c_1 c_2) dL_way_67 ?_
      refine lv_sipush (v := 512) hx hb dL_way_68 (by decide) ?_
      refine lv_idiv hx hb dL_way_71 (by decide) ?_
      refine lv_istore (lv' := [(7, .int ((vc ((vg ((7 : Int32)).toNatClampNeg)).toNatClampNeg) / (512 : Int32))), (6, .int (zRem ((vc ((vg ((7 : Int32)).toNatClampNeg)).toNatClampNeg) / (64 : Int32)) (8 : Int32))), (5, .int (zRem ((vc ((vg ((7 : Int32)).toNatClampNeg)).toNatClampNeg) / (8 : Int32)) (8 : Int32))), (4, .int (zRem (vc ((vg ((7 : Int32)).toNatClampNeg)).toNatClampNeg) (8 : Int32))), (0, .ref ak), (1, .ref ah), (2, .ref ac), (3, .ref ag)]) hx hb dL_way_72 hl (by decide) rfl (fun ls hl => ?_)
      refine lv_aload_n hx hb dL_way_74 rfl (lv_at hl 7 rfl) ?_
      refine lv_bipush (v := 9) hx hb dL_way_75 (by decide) ?_
      refine va_iald hx hb hK hP 3 0 rfl rfl (i := (9 : Int32)) (by unfold vp_in; decide) dL_way_77 ?_
      refine lv_iload hx hb dL_way_78 (lv_at hl 2 rfl) ?_
      refine zcSi (va_runS (As := [.int (vg ((9 : Int32)).toNatClampNeg), .int (zRem ((vc ((vg ((7 : Int32)).toNatClampNeg)).toNatClampNeg) / (8 : Int32)) (8 : Int32))]) (rest := []) ⟨hx, hb, hml, hown, hts⟩ (c_L_isIn l hfl dC dI cI cJ H.size (vg ((9 : Int32)).toNatClampNeg) (zRem ((vc ((vg ((7 : Int32)).toNatClampNeg)).toNatClampNeg) / (8 : Int32)) (8 : Int32)) ) (va_cwS 2 hts gL_way_L_isIn rfl rfl rfl (by decide +kernel) ⟨Nat.le_of_ble_eq_true rfl, Nat.le_of_ble_eq_true rfl⟩) (zpS hK hP hD hS hA hG [] (by decide) rfl) rfl rfl hl.1 rfl (lv_room (Nat.le_of_ble_eq_true rfl)) dL_way_80 ⟨Nat.le_of_ble_eq_true rfl, Nat.le_of_ble_eq_true rfl⟩) ?_
      refine zNm (fun R9 Q9 hR9 hQ9 => ?_)
      have J91 : ∀ (v91_0 : Int32), v91_0 = (jL_way_91_0 vk vh vc vg) → ∀ (H : Heap) (locs : List Loc) (ls : Array Slot), va_P (dC, dI) vwCl [(ak, .inl (cI, 49, .inl vk)), (ah, .inl (cI, 9, .inl vh)), (ac, .inl (cI, 13, .inl vc)), (ag, .inl (cI, 13, .inl vg))] H → va_D A [(ak, .inl (cI, 49, .inl vk)), (ah, .inl (cI, 9, .inl vh)), (ac, .inl (cI, 13, .inl vc)), (ag, .inl (cI, 13, .inl vg))] → va_S A s.heap H locs → lv_has ls 12 [(7, .int ((vc ((vg ((7 : Int32)).toNatClampNeg)).toNatClampNeg) / (512 : Int32))), (6, .int (zRem ((vc ((vg ((7 : Int32)).toNatClampNeg)).toNatClampNeg) / (64 : Int32)) (8 : Int32))), (5, .int (zRem ((vc ((vg ((7 : Int32)).toNatClampNeg)).toNatClampNeg) / (8 : Int32)) (8 : Int32))), (4, .int (zRem (vc ((vg ((7 : Int32)).toNatClampNeg)).toNatClampNeg) (8 : Int32))), (0, .ref ak), (1, .ref ah), (2, .ref ac), (3, .ref ag)] → W p l e R9 s m ([.ref ak, .ref ah, .ref ac, .ref ag] : List Value).toArray below meth c H locs 2 28 Q9 (F0 m 91 ls [.int v91_0]) := by
        subst hR9; subst hQ9
        intro v91_0 hvv91_0
        rw [hvv91_0]; clear hvv91_0 v91_0
        intro H locs ls hP hD hS hl
        refine lv_istore (lv' := [(8, .int (jL_way_91_0 vk vh vc vg)), (7, .int ((vc ((vg ((7 : Int32)).toNatClampNeg)).toNatClampNeg) / (512 : Int32))), (6, .int (zRem ((vc ((vg ((7 : Int32)).toNatClampNeg)).toNatClampNeg) / (64 : Int32)) (8 : Int32))), (5, .int (zRem ((vc ((vg ((7 : Int32)).toNatClampNeg)).toNatClampNeg) / (8 : Int32)) (8 : Int32))), (4, .int (zRem (vc ((vg ((7 : Int32)).toNatClampNeg)).toNatClampNeg) (8 : Int32))), (0, .ref ak), (1, .ref ah), (2, .ref ac), (3, .ref ag)]) hx hb dL_way_91 hl (by decide) rfl (fun ls hl => ?_)
        refine lv_aload_n hx hb dL_way_93 rfl (lv_at hl 8 rfl) ?_
        refine lv_bipush (v := 9) hx hb dL_way_94 (by decide) ?_
        refine va_iald hx hb hK hP 3 0 rfl rfl (i := (9 : Int32)) (by unfold vp_in; decide) dL_way_96 ?_
        refine lv_iload hx hb dL_way_97 (lv_at hl 2 rfl) ?_
        refine zcSi (va_runS (As := [.int (vg ((9 : Int32)).toNatClampNeg), .int (zRem ((vc ((vg ((7 : Int32)).toNatClampNeg)).toNatClampNeg) / (64 : Int32)) (8 : Int32))]) (rest := []) ⟨hx, hb, hml, hown, hts⟩ (c_L_isIn l hfl dC dI cI cJ H.size (vg ((9 : Int32)).toNatClampNeg) (zRem ((vc ((vg ((7 : Int32)).toNatClampNeg)).toNatClampNeg) / (64 : Int32)) (8 : Int32)) ) (va_cwS 2 hts gL_way_L_isIn rfl rfl rfl (by decide +kernel) ⟨Nat.le_of_ble_eq_true rfl, Nat.le_of_ble_eq_true rfl⟩) (zpS hK hP hD hS hA hG [] (by decide) rfl) rfl rfl hl.1 rfl (lv_room (Nat.le_of_ble_eq_true rfl)) dL_way_99 ⟨Nat.le_of_ble_eq_true rfl, Nat.le_of_ble_eq_true rfl⟩) ?_
        refine zNm (fun R9 Q9 hR9 hQ9 => ?_)
        have J110 : ∀ (v110_0 : Int32), v110_0 = (jL_way_110_0 vk vh vc vg) → ∀ (H : Heap) (locs : List Loc) (ls : Array Slot), va_P (dC, dI) vwCl [(ak, .inl (cI, 49, .inl vk)), (ah, .inl (cI, 9, .inl vh)), (ac, .inl (cI, 13, .inl vc)), (ag, .inl (cI, 13, .inl vg))] H → va_D A [(ak, .inl (cI, 49, .inl vk)), (ah, .inl (cI, 9, .inl vh)), (ac, .inl (cI, 13, .inl vc)), (ag, .inl (cI, 13, .inl vg))] → va_S A s.heap H locs → lv_has ls 12 [(8, .int (jL_way_91_0 vk vh vc vg)), (7, .int ((vc ((vg ((7 : Int32)).toNatClampNeg)).toNatClampNeg) / (512 : Int32))), (6, .int (zRem ((vc ((vg ((7 : Int32)).toNatClampNeg)).toNatClampNeg) / (64 : Int32)) (8 : Int32))), (5, .int (zRem ((vc ((vg ((7 : Int32)).toNatClampNeg)).toNatClampNeg) / (8 : Int32)) (8 : Int32))), (4, .int (zRem (vc ((vg ((7 : Int32)).toNatClampNeg)).toNatClampNeg) (8 : Int32))), (0, .ref ak), (1, .ref ah), (2, .ref ac), (3, .ref ag)] → W p l e R9 s m ([.ref ak, .ref ah, .ref ac, .ref ag] : List Value).toArray below meth c H locs 2 28 Q9 (F0 m 110 ls [.int v110_0]) := by
          subst hR9; subst hQ9
          intro v110_0 hvv110_0
          rw [hvv110_0]; clear hvv110_0 v110_0
          intro H locs ls hP hD hS hl
          refine lv_istore (lv' := [(9, .int (jL_way_110_0 vk vh vc vg)), (8, .int (jL_way_91_0 vk vh vc vg)), (7, .int ((vc ((vg ((7 : Int32)).toNatClampNeg)).toNatClampNeg) / (512 : Int32))), (6, .int (zRem ((vc ((vg ((7 : Int32)).toNatClampNeg)).toNatClampNeg) / (64 : Int32)) (8 : Int32))), (5, .int (zRem ((vc ((vg ((7 : Int32)).toNatClampNeg)).toNatClampNeg) / (8 : Int32)) (8 : Int32))), (4, .int (zRem (vc ((vg ((7 : Int32)).toNatClampNeg)).toNatClampNeg) (8 : Int32))), (0, .ref ak), (1, .ref ah), (2, .ref ac), (3, .ref ag)]) hx hb dL_way_110 hl (by decide) rfl (fun ls hl => ?_)
          refine lv_iload hx hb dL_way_112 (lv_at hl 5 rfl) ?_
          refine lv_iconst (v := 2) hx hb dL_way_114 (by decide) ?_
          refine lv_icmp_eq (tgt := 124) hx hb dL_way_115 (by decide) (fun c_3 => ?_) (fun c_3 => ?_)
          · refine lv_iload hx hb dL_way_124 (lv_at hl 5 rfl) ?_
            refine lv_iconst (v := 2) hx hb dL_way_126 (by decide) ?_
            refine lv_icmp_ne (tgt := 137) hx hb dL_way_127 (by decide) (fun c_4 => ?_) (fun c_4 => ?_)
            · refine lv_iconst (v := 1) hx hb dL_way_137 (by decide) ?_
              refine lv_iload hx hb dL_way_138 (lv_at hl 1 rfl) ?_
              refine lv_iadd hx hb dL_way_140 ?_
              refine W.widen (k := 2) (n := 28) (by decide) (by decide) ?_
              exact W.iret (v := ((1 : Int32) + (jL_way_91_0 vk vh vc vg))) hx hb hr (fun t ht hW => ⟨⟨((1 : Int32) + (jL_way_91_0 vk vh vc vg)), (), rfl, (by unfold rL_way; rw [if_pos c_1, if_neg c_2, if_pos c_3, if_neg c_4]), (by rw [ht]; exact hP.sub [0, 1, 2, 3] rfl), va_K.moved hW.alike hK, hD.sub [0, 1, 2, 3] (by decide) rfl⟩, hS.F ht⟩) hS.2.2 dL_way_141
            · refine lv_iconst (v := 2) hx hb dL_way_130 (by decide) ?_
              refine lv_iload hx hb dL_way_131 (lv_at hl 1 rfl) ?_
              refine lv_isub hx hb dL_way_133 ?_
              refine lv_goto (tgt := 141) hx hb dL_way_134 (by decide) ?_
              refine W.widen (k := 2) (n := 28) (by decide) (by decide) ?_
              exact W.iret (v := ((2 : Int32) - (jL_way_91_0 vk vh vc vg))) hx hb hr (fun t ht hW => ⟨⟨((2 : Int32) - (jL_way_91_0 vk vh vc vg)), (), rfl, (by unfold rL_way; rw [if_pos c_1, if_neg c_2, if_pos c_3, if_pos c_4]), (by rw [ht]; exact hP.sub [0, 1, 2, 3] rfl), va_K.moved hW.alike hK, hD.sub [0, 1, 2, 3] (by decide) rfl⟩, hS.F ht⟩) hS.2.2 dL_way_141
          · refine lv_iload hx hb dL_way_118 (lv_at hl 5 rfl) ?_
            refine lv_iconst (v := 3) hx hb dL_way_120 (by decide) ?_
            refine lv_icmp_ne (tgt := 142) hx hb dL_way_121 (by decide) (fun c_5 => ?_) (fun c_5 => ?_)
            · refine lv_iconst (v := 0) hx hb dL_way_142 (by decide) ?_
              refine lv_istore (lv' := [(10, .int (0 : Int32)), (9, .int (jL_way_110_0 vk vh vc vg)), (8, .int (jL_way_91_0 vk vh vc vg)), (7, .int ((vc ((vg ((7 : Int32)).toNatClampNeg)).toNatClampNeg) / (512 : Int32))), (6, .int (zRem ((vc ((vg ((7 : Int32)).toNatClampNeg)).toNatClampNeg) / (64 : Int32)) (8 : Int32))), (5, .int (zRem ((vc ((vg ((7 : Int32)).toNatClampNeg)).toNatClampNeg) / (8 : Int32)) (8 : Int32))), (4, .int (zRem (vc ((vg ((7 : Int32)).toNatClampNeg)).toNatClampNeg) (8 : Int32))), (0, .ref ak), (1, .ref ah), (2, .ref ac), (3, .ref ag)]) hx hb dL_way_143 hl (by decide) rfl (fun ls hl => ?_)
              refine lv_iload hx hb dL_way_145 (lv_at hl 6 rfl) ?_
              refine lv_iconst (v := 1) hx hb dL_way_147 (by decide) ?_
              refine zNm (fun R9 Q9 hR9 hQ9 => ?_)
              have J205 : ∀ (v205_0 : Int32), v205_0 = (jL_way_205_0 vk vh vc vg) → ∀ (H : Heap) (locs : List Loc) (ls : Array Slot), va_P (dC, dI) vwCl [(ak, .inl (cI, 49, .inl vk)), (ah, .inl (cI, 9, .inl vh)), (ac, .inl (cI, 13, .inl vc)), (ag, .inl (cI, 13, .inl vg))] H → va_D A [(ak, .inl (cI, 49, .inl vk)), (ah, .inl (cI, 9, .inl vh)), (ac, .inl (cI, 13, .inl vc)), (ag, .inl (cI, 13, .inl vg))] → va_S A s.heap H locs → lv_has ls 12 [(10, .int v205_0), (9, .int (jL_way_110_0 vk vh vc vg)), (8, .int (jL_way_91_0 vk vh vc vg)), (7, .int ((vc ((vg ((7 : Int32)).toNatClampNeg)).toNatClampNeg) / (512 : Int32))), (6, .int (zRem ((vc ((vg ((7 : Int32)).toNatClampNeg)).toNatClampNeg) / (64 : Int32)) (8 : Int32))), (5, .int (zRem ((vc ((vg ((7 : Int32)).toNatClampNeg)).toNatClampNeg) / (8 : Int32)) (8 : Int32))), (4, .int (zRem (vc ((vg ((7 : Int32)).toNatClampNeg)).toNatClampNeg) (8 : Int32))), (0, .ref ak), (1, .ref ah), (2, .ref ac), (3, .ref ag)] → W p l e R9 s m ([.ref ak, .ref ah, .ref ac, .ref ag] : List Value).toArray below meth c H locs 2 28 Q9 (F0 m 205 ls []) := by
                subst hR9; subst hQ9
                intro v205_0 hvv205_0
                rw [hvv205_0]; clear hvv205_0 v205_0
                intro H locs ls hP hD hS hl
                refine lv_iload hx hb dL_way_205 (lv_at hl 6 rfl) ?_
                refine zNm (fun R9 Q9 hR9 hQ9 => ?_)
                have J280 : ∀ (v280_0 : Int32), v280_0 = (jL_way_280_0 vk vh vc vg) → ∀ (H : Heap) (locs : List Loc) (ls : Array Slot), va_P (dC, dI) vwCl [(ak, .inl (cI, 49, .inl vk)), (ah, .inl (cI, 9, .inl vh)), (ac, .inl (cI, 13, .inl vc)), (ag, .inl (cI, 13, .inl vg))] H → va_D A [(ak, .inl (cI, 49, .inl vk)), (ah, .inl (cI, 9, .inl vh)), (ac, .inl (cI, 13, .inl vc)), (ag, .inl (cI, 13, .inl vg))] → va_S A s.heap H locs → lv_has ls 12 [(10, .int v280_0), (9, .int (jL_way_110_0 vk vh vc vg)), (8, .int (jL_way_91_0 vk vh vc vg)), (7, .int ((vc ((vg ((7 : Int32)).toNatClampNeg)).toNatClampNeg) / (512 : Int32))), (6, .int (zRem ((vc ((vg ((7 : Int32)).toNatClampNeg)).toNatClampNeg) / (64 : Int32)) (8 : Int32))), (5, .int (zRem ((vc ((vg ((7 : Int32)).toNatClampNeg)).toNatClampNeg) / (8 : Int32)) (8 : Int32))), (4, .int (zRem (vc ((vg ((7 : Int32)).toNatClampNeg)).toNatClampNeg) (8 : Int32))), (0, .ref ak), (1, .ref ah), (2, .ref ac), (3, .ref ag)] → W p l e R9 s m ([.ref ak, .ref ah, .ref ac, .ref ag] : List Value).toArray below meth c H locs 2 28 Q9 (F0 m 280 ls []) := by
                  subst hR9; subst hQ9
                  intro v280_0 hvv280_0
                  rw [hvv280_0]; clear hvv280_0 v280_0
                  intro H locs ls hP hD hS hl
                  refine lv_iconst (v := 1) hx hb dL_way_280 (by decide) ?_
                  refine lv_iload hx hb dL_way_281 (lv_at hl 2 rfl) ?_
                  refine lv_iadd hx hb dL_way_283 ?_
                  refine lv_iload hx hb dL_way_284 (lv_at hl 1 rfl) ?_
                  refine lv_iadd hx hb dL_way_286 ?_
                  refine lv_iload hx hb dL_way_287 (lv_at hl 0 rfl) ?_
                  refine lv_iadd hx hb dL_way_289 ?_
                  refine W.widen (k := 2) (n := 28) (by decide) (by decide) ?_
                  exact W.iret (v := ((((1 : Int32) + (jL_way_91_0 vk vh vc vg)) + (jL_way_110_0 vk vh vc vg)) + (jL_way_280_0 vk vh vc vg))) hx hb hr (fun t ht hW => ⟨⟨((((1 : Int32) + (jL_way_91_0 vk vh vc vg)) + (jL_way_110_0 vk vh vc vg)) + (jL_way_280_0 vk vh vc vg)), (), rfl, (by unfold rL_way; rw [if_pos c_1, if_neg c_2, if_neg c_3, if_neg c_5]), (by rw [ht]; exact hP.sub [0, 1, 2, 3] rfl), va_K.moved hW.alike hK, hD.sub [0, 1, 2, 3] (by decide) rfl⟩, hS.F ht⟩) hS.2.2 dL_way_290
                subst hR9; subst hQ9
                refine lv_if_ne (tgt := 280) hx hb dL_way_207 (by decide) (fun c_6 => ?_) (fun c_6 => ?_)
                · exact J280 (jL_way_205_0 vk vh vc vg) (by unfold jL_way_280_0; rw [if_neg c_6]) _ _ _ hP hD hS (lv_sub hl [0, 1, 2, 3, 4, 5, 6, 7, 8, 9, 10] rfl)
                · refine lv_aload_n hx hb dL_way_210 rfl (lv_at hl 7 rfl) ?_
                  refine lv_bipush (v := 24) hx hb dL_way_211 (by decide) ?_
                  refine lv_iconst (v := 4) hx hb dL_way_213 (by decide) ?_
                  refine lv_iload hx hb dL_way_214 (lv_at hl 5 rfl) ?_
                  refine lv_imul hx hb dL_way_216 ?_
                  refine lv_iadd hx hb dL_way_217 ?_
                  refine lv_iload hx hb dL_way_218 (lv_at hl 3 rfl) ?_
                  refine lv_iadd hx hb dL_way_220 ?_
                  refine va_iald hx hb hK hP 0 0 rfl rfl (i := (((24 : Int32) + ((4 : Int32) * (zRem ((vc ((vg ((7 : Int32)).toNatClampNeg)).toNatClampNeg) / (8 : Int32)) (8 : Int32)))) + ((vc ((vg ((7 : Int32)).toNatClampNeg)).toNatClampNeg) / (512 : Int32)))) (hi221 c_1 c_2 c_3 c_5 c_6) dL_way_221 ?_
                  refine lv_if_ne (tgt := 280) hx hb dL_way_222 (by decide) (fun c_7 => ?_) (fun c_7 => ?_)
                  · exact J280 (jL_way_205_0 vk vh vc vg) (by unfold jL_way_280_0; rw [if_pos c_6, if_neg c_7]) _ _ _ hP hD hS (lv_sub hl [0, 1, 2, 3, 4, 5, 6, 7, 8, 9, 10] rfl)
                  · refine lv_iconst (v := 2) hx hb dL_way_225 (by decide) ?_
                    refine lv_istore (lv' := [(10, .int (2 : Int32)), (9, .int (jL_way_110_0 vk vh vc vg)), (8, .int (jL_way_91_0 vk vh vc vg)), (7, .int ((vc ((vg ((7 : Int32)).toNatClampNeg)).toNatClampNeg) / (512 : Int32))), (6, .int (zRem ((vc ((vg ((7 : Int32)).toNatClampNeg)).toNatClampNeg) / (64 : Int32)) (8 : Int32))), (5, .int (zRem ((vc ((vg ((7 : Int32)).toNatClampNeg)).toNatClampNeg) / (8 : Int32)) (8 : Int32))), (4, .int (zRem (vc ((vg ((7 : Int32)).toNatClampNeg)).toNatClampNeg) (8 : Int32))), (0, .ref ak), (1, .ref ah), (2, .ref ac), (3, .ref ag)]) hx hb dL_way_226 hl (by decide) rfl (fun ls hl => ?_)
                    refine lv_iconst (v := 0) hx hb dL_way_228 (by decide) ?_
                    refine lv_istore (lv' := [(11, .int (0 : Int32)), (10, .int (2 : Int32)), (9, .int (jL_way_110_0 vk vh vc vg)), (8, .int (jL_way_91_0 vk vh vc vg)), (7, .int ((vc ((vg ((7 : Int32)).toNatClampNeg)).toNatClampNeg) / (512 : Int32))), (6, .int (zRem ((vc ((vg ((7 : Int32)).toNatClampNeg)).toNatClampNeg) / (64 : Int32)) (8 : Int32))), (5, .int (zRem ((vc ((vg ((7 : Int32)).toNatClampNeg)).toNatClampNeg) / (8 : Int32)) (8 : Int32))), (4, .int (zRem (vc ((vg ((7 : Int32)).toNatClampNeg)).toNatClampNeg) (8 : Int32))), (0, .ref ak), (1, .ref ah), (2, .ref ac), (3, .ref ag)]) hx hb dL_way_229 hl (by decide) rfl (fun ls hl => ?_)
                    refine zNm (fun R9 Q9 hR9 hQ9 => ?_)
                    have L231 : ∀ (n231 : Nat) (mo1 : Int32) (m1 : Int32), 0 ≤ m1.toInt → ((6 : Int32)).toInt - m1.toInt < n231 ∧ 0 < n231 → (∀ (H : Heap) (locs : List Loc) (ls : Array Slot), va_P (dC, dI) vwCl [(ak, .inl (cI, 49, .inl vk)), (ah, .inl (cI, 9, .inl vh)), (ac, .inl (cI, 13, .inl vc)), (ag, .inl (cI, 13, .inl vg))] H → va_D A [(ak, .inl (cI, 49, .inl vk)), (ah, .inl (cI, 9, .inl vh)), (ac, .inl (cI, 13, .inl vc)), (ag, .inl (cI, 13, .inl vg))] → va_S A s.heap H locs → lv_has ls 12 [(10, .int (lL_way_231_mo1 vk vh vc vg n231 mo1 m1)), (9, .int (jL_way_110_0 vk vh vc vg)), (8, .int (jL_way_91_0 vk vh vc vg)), (7, .int ((vc ((vg ((7 : Int32)).toNatClampNeg)).toNatClampNeg) / (512 : Int32))), (6, .int (zRem ((vc ((vg ((7 : Int32)).toNatClampNeg)).toNatClampNeg) / (64 : Int32)) (8 : Int32))), (5, .int (zRem ((vc ((vg ((7 : Int32)).toNatClampNeg)).toNatClampNeg) / (8 : Int32)) (8 : Int32))), (4, .int (zRem (vc ((vg ((7 : Int32)).toNatClampNeg)).toNatClampNeg) (8 : Int32))), (0, .ref ak), (1, .ref ah), (2, .ref ac), (3, .ref ag)] → W p l e R9 s m ([.ref ak, .ref ah, .ref ac, .ref ag] : List Value).toArray below meth c H locs 2 28 Q9 (F0 m 280 ls [])) → ∀ (H : Heap) (locs : List Loc) (ls : Array Slot), va_P (dC, dI) vwCl [(ak, .inl (cI, 49, .inl vk)), (ah, .inl (cI, 9, .inl vh)), (ac, .inl (cI, 13, .inl vc)), (ag, .inl (cI, 13, .inl vg))] H → va_D A [(ak, .inl (cI, 49, .inl vk)), (ah, .inl (cI, 9, .inl vh)), (ac, .inl (cI, 13, .inl vc)), (ag, .inl (cI, 13, .inl vg))] → va_S A s.heap H locs → lv_has ls 12 [(11, .int m1), (10, .int mo1), (9, .int (jL_way_110_0 vk vh vc vg)), (8, .int (jL_way_91_0 vk vh vc vg)), (7, .int ((vc ((vg ((7 : Int32)).toNatClampNeg)).toNatClampNeg) / (512 : Int32))), (6, .int (zRem ((vc ((vg ((7 : Int32)).toNatClampNeg)).toNatClampNeg) / (64 : Int32)) (8 : Int32))), (5, .int (zRem ((vc ((vg ((7 : Int32)).toNatClampNeg)).toNatClampNeg) / (8 : Int32)) (8 : Int32))), (4, .int (zRem (vc ((vg ((7 : Int32)).toNatClampNeg)).toNatClampNeg) (8 : Int32))), (0, .ref ak), (1, .ref ah), (2, .ref ac), (3, .ref ag)] → W p l e R9 s m ([.ref ak, .ref ah, .ref ac, .ref ag] : List Value).toArray below meth c H locs 2 28 Q9 (F0 m 231 ls []) := by
                      subst hR9; subst hQ9
                      intro n231
                      induction n231 with
                      | zero => intro mo1 m1 hm0 hm2; exact absurd hm2.2 (by decide)
                      | succ n231 ih231 =>
                        intro mo1 m1 hm0 hm2 K231 H locs ls hP hD hS hl
                        refine lv_iload hx hb dL_way_231 (lv_at hl 0 rfl) ?_
                        refine lv_bipush (v := 6) hx hb dL_way_233 (by decide) ?_
                        refine lv_icmp_ge (tgt := 280) hx hb dL_way_235 (by decide) (fun c_8 => ?_) (fun c_8 => ?_)
                        · have E := K231
                          rw [(show lL_way_231_mo1 vk vh vc vg (n231 + 1) mo1 m1 = mo1 from by rw [lL_way_231_mo1]; rw [if_pos c_8])] at E
                          exact E _ _ _ hP hD hS (lv_sub hl [1, 2, 3, 4, 5, 6, 7, 8, 9, 10, 11] rfl)
                        · refine lv_aload_n hx hb dL_way_238 rfl (lv_at hl 8 rfl) ?_
                          refine lv_bipush (v := 24) hx hb dL_way_239 (by decide) ?_
                          refine lv_iconst (v := 4) hx hb dL_way_241 (by decide) ?_
                          refine lv_iload hx hb dL_way_242 (lv_at hl 0 rfl) ?_
                          refine lv_imul hx hb dL_way_244 ?_
                          refine lv_iadd hx hb dL_way_245 ?_
                          refine lv_iload hx hb dL_way_246 (lv_at hl 4 rfl) ?_
                          refine lv_iadd hx hb dL_way_248 ?_
                          refine va_iald hx hb hK hP 0 0 rfl rfl (i := (((24 : Int32) + ((4 : Int32) * m1)) + ((vc ((vg ((7 : Int32)).toNatClampNeg)).toNatClampNeg) / (512 : Int32)))) (zi24m (zin_c hm0 (by assumption) (by decide)) (hW7 (by assumption) (by assumption))) dL_way_249 ?_
                          refine lv_iconst (v := 1) hx hb dL_way_250 (by decide) ?_
                          refine zNm (fun R9 Q9 hR9 hQ9 => ?_)
                          have J272 : ∀ (v272_0 : Int32), v272_0 = (jL_way_272_0 vk vh vc vg mo1 m1) → ∀ (H : Heap) (locs : List Loc) (ls : Array Slot), va_P (dC, dI) vwCl [(ak, .inl (cI, 49, .inl vk)), (ah, .inl (cI, 9, .inl vh)), (ac, .inl (cI, 13, .inl vc)), (ag, .inl (cI, 13, .inl vg))] H → va_D A [(ak, .inl (cI, 49, .inl vk)), (ah, .inl (cI, 9, .inl vh)), (ac, .inl (cI, 13, .inl vc)), (ag, .inl (cI, 13, .inl vg))] → va_S A s.heap H locs → lv_has ls 12 [(11, .int m1), (10, .int mo1), (9, .int (jL_way_110_0 vk vh vc vg)), (8, .int (jL_way_91_0 vk vh vc vg)), (7, .int ((vc ((vg ((7 : Int32)).toNatClampNeg)).toNatClampNeg) / (512 : Int32))), (6, .int (zRem ((vc ((vg ((7 : Int32)).toNatClampNeg)).toNatClampNeg) / (64 : Int32)) (8 : Int32))), (5, .int (zRem ((vc ((vg ((7 : Int32)).toNatClampNeg)).toNatClampNeg) / (8 : Int32)) (8 : Int32))), (4, .int (zRem (vc ((vg ((7 : Int32)).toNatClampNeg)).toNatClampNeg) (8 : Int32))), (0, .ref ak), (1, .ref ah), (2, .ref ac), (3, .ref ag)] → W p l e R9 s m ([.ref ak, .ref ah, .ref ac, .ref ag] : List Value).toArray below meth c H locs 2 28 Q9 (F0 m 272 ls [.int v272_0]) := by
                            subst hR9; subst hQ9
                            intro v272_0 hvv272_0
                            rw [hvv272_0]; clear hvv272_0 v272_0
                            intro H locs ls hP hD hS hl
                            refine lv_istore (lv' := [(10, .int (jL_way_272_0 vk vh vc vg mo1 m1)), (11, .int m1), (9, .int (jL_way_110_0 vk vh vc vg)), (8, .int (jL_way_91_0 vk vh vc vg)), (7, .int ((vc ((vg ((7 : Int32)).toNatClampNeg)).toNatClampNeg) / (512 : Int32))), (6, .int (zRem ((vc ((vg ((7 : Int32)).toNatClampNeg)).toNatClampNeg) / (64 : Int32)) (8 : Int32))), (5, .int (zRem ((vc ((vg ((7 : Int32)).toNatClampNeg)).toNatClampNeg) / (8 : Int32)) (8 : Int32))), (4, .int (zRem (vc ((vg ((7 : Int32)).toNatClampNeg)).toNatClampNeg) (8 : Int32))), (0, .ref ak), (1, .ref ah), (2, .ref ac), (3, .ref ag)]) hx hb dL_way_272 hl (by decide) rfl (fun ls hl => ?_)
                            refine lv_iinc (v := (m1 + 1)) (lv' := [(11, .int (m1 + 1)), (10, .int (jL_way_272_0 vk vh vc vg mo1 m1)), (9, .int (jL_way_110_0 vk vh vc vg)), (8, .int (jL_way_91_0 vk vh vc vg)), (7, .int ((vc ((vg ((7 : Int32)).toNatClampNeg)).toNatClampNeg) / (512 : Int32))), (6, .int (zRem ((vc ((vg ((7 : Int32)).toNatClampNeg)).toNatClampNeg) / (64 : Int32)) (8 : Int32))), (5, .int (zRem ((vc ((vg ((7 : Int32)).toNatClampNeg)).toNatClampNeg) / (8 : Int32)) (8 : Int32))), (4, .int (zRem (vc ((vg ((7 : Int32)).toNatClampNeg)).toNatClampNeg) (8 : Int32))), (0, .ref ak), (1, .ref ah), (2, .ref ac), (3, .ref ag)]) hx hb dL_way_274 hl (k := 1) rfl rfl (by decide) rfl (fun ls hl => ?_)
                            refine lv_goto (tgt := 231) hx hb dL_way_277 (by decide) ?_
                            exact ih231 (jL_way_272_0 vk vh vc vg mo1 m1) (m1 + 1) (by have h9 := zInc (x := m1) (y := (6 : Int32)) (by assumption); omega) (by have h9 := zInc (x := m1) (y := (6 : Int32)) (by assumption); have h8 := zGo (x := m1) (y := (6 : Int32)) (by assumption); omega) (by have E := K231; rw [(show lL_way_231_mo1 vk vh vc vg (n231 + 1) mo1 m1 = lL_way_231_mo1 vk vh vc vg n231 (jL_way_272_0 vk vh vc vg mo1 m1) (m1 + 1) from by rw [lL_way_231_mo1]; rw [if_neg c_8])] at E; exact E) _ _ _ hP hD hS (lv_sub hl [0, 1, 2, 3, 4, 5, 6, 7, 8, 9, 10, 11] rfl)
                          subst hR9; subst hQ9
                          refine lv_icmp_ne (tgt := 270) hx hb dL_way_251 (by decide) (fun c_9 => ?_) (fun c_9 => ?_)
                          · refine lv_iload hx hb dL_way_270 (lv_at hl 1 rfl) ?_
                            exact J272 mo1 (by unfold jL_way_272_0; rw [if_neg c_9]) _ _ _ hP hD hS (lv_sub hl [0, 1, 2, 3, 4, 5, 6, 7, 8, 9, 10, 11] rfl)
                          · refine lv_aload_n hx hb dL_way_254 rfl (lv_at hl 11 rfl) ?_
                            refine lv_bipush (v := 9) hx hb dL_way_255 (by decide) ?_
                            refine va_iald hx hb hK hP 3 0 rfl rfl (i := (9 : Int32)) (by unfold vp_in; decide) dL_way_257 ?_
                            refine lv_iload hx hb dL_way_258 (lv_at hl 0 rfl) ?_
                            refine zcSi (va_runS (As := [.int (vg ((9 : Int32)).toNatClampNeg), .int m1]) (rest := []) ⟨hx, hb, hml, hown, hts⟩ (c_L_isIn l hfl dC dI cI cJ H.size (vg ((9 : Int32)).toNatClampNeg) m1 ) (va_cwS 2 hts gL_way_L_isIn rfl rfl rfl (by decide +kernel) ⟨Nat.le_of_ble_eq_true rfl, Nat.le_of_ble_eq_true rfl⟩) (zpS hK hP hD hS hA hG [] (by decide) rfl) rfl rfl hl.1 rfl (lv_room (Nat.le_of_ble_eq_true rfl)) dL_way_260 ⟨Nat.le_of_ble_eq_true rfl, Nat.le_of_ble_eq_true rfl⟩) ?_
                            refine lv_if_eq (tgt := 270) hx hb dL_way_263 (by decide) (fun c_10 => ?_) (fun c_10 => ?_)
                            · refine lv_iload hx hb dL_way_270 (lv_at hl 1 rfl) ?_
                              exact J272 mo1 (by unfold jL_way_272_0; rw [if_pos c_9, if_pos c_10]) _ _ _ hP hD hS (lv_sub hl [0, 1, 2, 3, 4, 5, 6, 7, 8, 9, 10, 11] rfl)
                            · refine lv_iconst (v := 1) hx hb dL_way_266 (by decide) ?_
                              refine lv_goto (tgt := 272) hx hb dL_way_267 (by decide) ?_
                              exact J272 (1 : Int32) (by unfold jL_way_272_0; rw [if_pos c_9, if_neg c_10]) _ _ _ hP hD hS (lv_sub hl [0, 1, 2, 3, 4, 5, 6, 7, 8, 9, 10, 11] rfl)
                    subst hR9; subst hQ9
                    refine L231 7 (2 : Int32) (0 : Int32) (by decide) (by decide) (fun H locs ls hP hD hS hl => ?_) _ _ _ hP hD hS (lv_sub hl [0, 1, 2, 3, 4, 5, 6, 7, 8, 9, 10, 11] rfl)
                    exact J280 (lL_way_231_mo1 vk vh vc vg 7 (2 : Int32) (0 : Int32)) (by unfold jL_way_280_0; rw [if_pos c_6, if_pos c_7]) _ _ _ hP hD hS (lv_sub hl [0, 1, 2, 3, 4, 5, 6, 7, 8, 9, 10] rfl)
              subst hR9; subst hQ9
              refine lv_icmp_ne (tgt := 205) hx hb dL_way_148 (by decide) (fun c_11 => ?_) (fun c_11 => ?_)
              · exact J205 (0 : Int32) (by unfold jL_way_205_0; rw [if_neg c_11]) _ _ _ hP hD hS (lv_sub hl [0, 1, 2, 3, 4, 5, 6, 7, 8, 9, 10] rfl)
              · refine lv_aload_n hx hb dL_way_151 rfl (lv_at hl 8 rfl) ?_
                refine lv_iconst (v := 4) hx hb dL_way_152 (by decide) ?_
                refine lv_iload hx hb dL_way_153 (lv_at hl 3 rfl) ?_
                refine lv_iadd hx hb dL_way_155 ?_
                refine va_iald hx hb hK hP 1 0 rfl rfl (i := ((4 : Int32) + ((vc ((vg ((7 : Int32)).toNatClampNeg)).toNatClampNeg) / (512 : Int32)))) (hi156 c_1 c_2 c_3 c_5 c_11) dL_way_156 ?_
                refine lv_iload hx hb dL_way_157 (lv_at hl 5 rfl) ?_
                refine lv_iconst (v := 1) hx hb dL_way_159 (by decide) ?_
                refine lv_iadd hx hb dL_way_160 ?_
                refine lv_icmp_eq (tgt := 205) hx hb dL_way_161 (by decide) (fun c_12 => ?_) (fun c_12 => ?_)
                · exact J205 (0 : Int32) (by unfold jL_way_205_0; rw [if_pos c_11, if_pos c_12]) _ _ _ hP hD hS (lv_sub hl [0, 1, 2, 3, 4, 5, 6, 7, 8, 9, 10] rfl)
                · refine lv_aload_n hx hb dL_way_164 rfl (lv_at hl 8 rfl) ?_
                  refine lv_iconst (v := 4) hx hb dL_way_165 (by decide) ?_
                  refine lv_iload hx hb dL_way_166 (lv_at hl 3 rfl) ?_
                  refine lv_iadd hx hb dL_way_168 ?_
                  refine va_iald hx hb hK hP 1 0 rfl rfl (i := ((4 : Int32) + ((vc ((vg ((7 : Int32)).toNatClampNeg)).toNatClampNeg) / (512 : Int32)))) (hi169 c_1 c_2 c_3 c_5 c_11 c_12) dL_way_169 ?_
                  refine lv_iconst (v := 1) hx hb dL_way_170 (by decide) ?_
                  refine lv_isub hx hb dL_way_171 ?_
                  refine lv_istore (lv' := [(11, .int ((vh (((4 : Int32) + ((vc ((vg ((7 : Int32)).toNatClampNeg)).toNatClampNeg) / (512 : Int32)))).toNatClampNeg) - (1 : Int32))), (10, .int (0 : Int32)), (9, .int (jL_way_110_0 vk vh vc vg)), (8, .int (jL_way_91_0 vk vh vc vg)), (7, .int ((vc ((vg ((7 : Int32)).toNatClampNeg)).toNatClampNeg) / (512 : Int32))), (6, .int (zRem ((vc ((vg ((7 : Int32)).toNatClampNeg)).toNatClampNeg) / (64 : Int32)) (8 : Int32))), (5, .int (zRem ((vc ((vg ((7 : Int32)).toNatClampNeg)).toNatClampNeg) / (8 : Int32)) (8 : Int32))), (4, .int (zRem (vc ((vg ((7 : Int32)).toNatClampNeg)).toNatClampNeg) (8 : Int32))), (0, .ref ak), (1, .ref ah), (2, .ref ac), (3, .ref ag)]) hx hb dL_way_172 hl (by decide) rfl (fun ls hl => ?_)
                  refine lv_iload hx hb dL_way_174 (lv_at hl 0 rfl) ?_
                  refine zNm (fun R9 Q9 hR9 hQ9 => ?_)
                  have J203 : ∀ (v203_0 : Int32), v203_0 = (jL_way_203_0 vk vh vc vg) → ∀ (H : Heap) (locs : List Loc) (ls : Array Slot), va_P (dC, dI) vwCl [(ak, .inl (cI, 49, .inl vk)), (ah, .inl (cI, 9, .inl vh)), (ac, .inl (cI, 13, .inl vc)), (ag, .inl (cI, 13, .inl vg))] H → va_D A [(ak, .inl (cI, 49, .inl vk)), (ah, .inl (cI, 9, .inl vh)), (ac, .inl (cI, 13, .inl vc)), (ag, .inl (cI, 13, .inl vg))] → va_S A s.heap H locs → lv_has ls 12 [(11, .int ((vh (((4 : Int32) + ((vc ((vg ((7 : Int32)).toNatClampNeg)).toNatClampNeg) / (512 : Int32)))).toNatClampNeg) - (1 : Int32))), (10, .int (0 : Int32)), (9, .int (jL_way_110_0 vk vh vc vg)), (8, .int (jL_way_91_0 vk vh vc vg)), (7, .int ((vc ((vg ((7 : Int32)).toNatClampNeg)).toNatClampNeg) / (512 : Int32))), (6, .int (zRem ((vc ((vg ((7 : Int32)).toNatClampNeg)).toNatClampNeg) / (64 : Int32)) (8 : Int32))), (5, .int (zRem ((vc ((vg ((7 : Int32)).toNatClampNeg)).toNatClampNeg) / (8 : Int32)) (8 : Int32))), (4, .int (zRem (vc ((vg ((7 : Int32)).toNatClampNeg)).toNatClampNeg) (8 : Int32))), (0, .ref ak), (1, .ref ah), (2, .ref ac), (3, .ref ag)] → W p l e R9 s m ([.ref ak, .ref ah, .ref ac, .ref ag] : List Value).toArray below meth c H locs 2 28 Q9 (F0 m 203 ls [.int v203_0]) := by
                    subst hR9; subst hQ9
                    intro v203_0 hvv203_0
                    rw [hvv203_0]; clear hvv203_0 v203_0
                    intro H locs ls hP hD hS hl
                    refine lv_istore (lv' := [(10, .int (jL_way_203_0 vk vh vc vg)), (11, .int ((vh (((4 : Int32) + ((vc ((vg ((7 : Int32)).toNatClampNeg)).toNatClampNeg) / (512 : Int32)))).toNatClampNeg) - (1 : Int32))), (9, .int (jL_way_110_0 vk vh vc vg)), (8, .int (jL_way_91_0 vk vh vc vg)), (7, .int ((vc ((vg ((7 : Int32)).toNatClampNeg)).toNatClampNeg) / (512 : Int32))), (6, .int (zRem ((vc ((vg ((7 : Int32)).toNatClampNeg)).toNatClampNeg) / (64 : Int32)) (8 : Int32))), (5, .int (zRem ((vc ((vg ((7 : Int32)).toNatClampNeg)).toNatClampNeg) / (8 : Int32)) (8 : Int32))), (4, .int (zRem (vc ((vg ((7 : Int32)).toNatClampNeg)).toNatClampNeg) (8 : Int32))), (0, .ref ak), (1, .ref ah), (2, .ref ac), (3, .ref ag)]) hx hb dL_way_203 hl (by decide) rfl (fun ls hl => ?_)
                    exact J205 (jL_way_203_0 vk vh vc vg) (by unfold jL_way_205_0; rw [if_pos c_11, if_neg c_12]) _ _ _ hP hD hS (lv_sub hl [0, 2, 3, 4, 5, 6, 7, 8, 9, 10, 11] rfl)
                  subst hR9; subst hQ9
                  refine lv_if_lt (tgt := 198) hx hb dL_way_176 (by decide) (fun c_13 => ?_) (fun c_13 => ?_)
                  · refine lv_iconst (v := 1) hx hb dL_way_198 (by decide) ?_
                    refine lv_goto (tgt := 203) hx hb dL_way_199 (by decide) ?_
                    exact J203 (1 : Int32) (by unfold jL_way_203_0; rw [if_pos c_13]) _ _ _ hP hD hS (lv_sub hl [0, 1, 2, 3, 4, 5, 6, 7, 8, 9, 10, 11] rfl)
                  · refine lv_iload hx hb dL_way_179 (lv_at hl 0 rfl) ?_
                    refine lv_iload hx hb dL_way_181 (lv_at hl 5 rfl) ?_
                    refine lv_icmp_eq (tgt := 198) hx hb dL_way_183 (by decide) (fun c_14 => ?_) (fun c_14 => ?_)
                    · refine lv_iconst (v := 1) hx hb dL_way_198 (by decide) ?_
                      refine lv_goto (tgt := 203) hx hb dL_way_199 (by decide) ?_
                      exact J203 (1 : Int32) (by unfold jL_way_203_0; rw [if_neg c_13, if_pos c_14]) _ _ _ hP hD hS (lv_sub hl [0, 1, 2, 3, 4, 5, 6, 7, 8, 9, 10, 11] rfl)
                    · refine lv_aload_n hx hb dL_way_186 rfl (lv_at hl 11 rfl) ?_
                      refine lv_bipush (v := 9) hx hb dL_way_187 (by decide) ?_
                      refine va_iald hx hb hK hP 3 0 rfl rfl (i := (9 : Int32)) (by unfold vp_in; decide) dL_way_189 ?_
                      refine lv_iload hx hb dL_way_190 (lv_at hl 0 rfl) ?_
                      refine zcSi (va_runS (As := [.int (vg ((9 : Int32)).toNatClampNeg), .int ((vh (((4 : Int32) + ((vc ((vg ((7 : Int32)).toNatClampNeg)).toNatClampNeg) / (512 : Int32)))).toNatClampNeg) - (1 : Int32))]) (rest := []) ⟨hx, hb, hml, hown, hts⟩ (c_L_isIn l hfl dC dI cI cJ H.size (vg ((9 : Int32)).toNatClampNeg) ((vh (((4 : Int32) + ((vc ((vg ((7 : Int32)).toNatClampNeg)).toNatClampNeg) / (512 : Int32)))).toNatClampNeg) - (1 : Int32)) ) (va_cwS 2 hts gL_way_L_isIn rfl rfl rfl (by decide +kernel) ⟨Nat.le_of_ble_eq_true rfl, Nat.le_of_ble_eq_true rfl⟩) (zpS hK hP hD hS hA hG [] (by decide) rfl) rfl rfl hl.1 rfl (lv_room (Nat.le_of_ble_eq_true rfl)) dL_way_192 ⟨Nat.le_of_ble_eq_true rfl, Nat.le_of_ble_eq_true rfl⟩) ?_
                      refine lv_if_eq (tgt := 202) hx hb dL_way_195 (by decide) (fun c_15 => ?_) (fun c_15 => ?_)
                      · refine lv_iconst (v := 2) hx hb dL_way_202 (by decide) ?_
                        exact J203 (2 : Int32) (by unfold jL_way_203_0; rw [if_neg c_13, if_neg c_14, if_pos c_15]) _ _ _ hP hD hS (lv_sub hl [0, 1, 2, 3, 4, 5, 6, 7, 8, 9, 10, 11] rfl)
                      · refine lv_iconst (v := 1) hx hb dL_way_198 (by decide) ?_
                        refine lv_goto (tgt := 203) hx hb dL_way_199 (by decide) ?_
                        exact J203 (1 : Int32) (by unfold jL_way_203_0; rw [if_neg c_13, if_neg c_14, if_neg c_15]) _ _ _ hP hD hS (lv_sub hl [0, 1, 2, 3, 4, 5, 6, 7, 8, 9, 10, 11] rfl)
            · refine lv_iload hx hb dL_way_124 (lv_at hl 5 rfl) ?_
              refine lv_iconst (v := 2) hx hb dL_way_126 (by decide) ?_
              refine lv_icmp_ne (tgt := 137) hx hb dL_way_127 (by decide) (fun c_16 => ?_) (fun c_16 => ?_)
              · refine lv_iconst (v := 1) hx hb dL_way_137 (by decide) ?_
                refine lv_iload hx hb dL_way_138 (lv_at hl 1 rfl) ?_
                refine lv_iadd hx hb dL_way_140 ?_
                refine W.widen (k := 2) (n := 28) (by decide) (by decide) ?_
                exact W.iret (v := ((1 : Int32) + (jL_way_91_0 vk vh vc vg))) hx hb hr (fun t ht hW => ⟨⟨((1 : Int32) + (jL_way_91_0 vk vh vc vg)), (), rfl, (by unfold rL_way; rw [if_pos c_1, if_neg c_2, if_neg c_3, if_pos c_5, if_neg c_16]), (by rw [ht]; exact hP.sub [0, 1, 2, 3] rfl), va_K.moved hW.alike hK, hD.sub [0, 1, 2, 3] (by decide) rfl⟩, hS.F ht⟩) hS.2.2 dL_way_141
              · refine lv_iconst (v := 2) hx hb dL_way_130 (by decide) ?_
                refine lv_iload hx hb dL_way_131 (lv_at hl 1 rfl) ?_
                refine lv_isub hx hb dL_way_133 ?_
                refine lv_goto (tgt := 141) hx hb dL_way_134 (by decide) ?_
                refine W.widen (k := 2) (n := 28) (by decide) (by decide) ?_
                exact W.iret (v := ((2 : Int32) - (jL_way_91_0 vk vh vc vg))) hx hb hr (fun t ht hW => ⟨⟨((2 : Int32) - (jL_way_91_0 vk vh vc vg)), (), rfl, (by unfold rL_way; rw [if_pos c_1, if_neg c_2, if_neg c_3, if_pos c_5, if_pos c_16]), (by rw [ht]; exact hP.sub [0, 1, 2, 3] rfl), va_K.moved hW.alike hK, hD.sub [0, 1, 2, 3] (by decide) rfl⟩, hS.F ht⟩) hS.2.2 dL_way_141
        subst hR9; subst hQ9
        refine lv_if_eq (tgt := 109) hx hb dL_way_102 (by decide) (fun c_17 => ?_) (fun c_17 => ?_)
        · refine lv_iconst (v := 1) hx hb dL_way_109 (by decide) ?_
          exact J110 (1 : Int32) (by unfold jL_way_110_0; rw [if_pos c_17]) _ _ _ hP hD hS (lv_sub hl [0, 1, 2, 3, 4, 5, 6, 7, 8] rfl)
        · refine lv_iconst (v := 0) hx hb dL_way_105 (by decide) ?_
          refine lv_goto (tgt := 110) hx hb dL_way_106 (by decide) ?_
          exact J110 (0 : Int32) (by unfold jL_way_110_0; rw [if_neg c_17]) _ _ _ hP hD hS (lv_sub hl [0, 1, 2, 3, 4, 5, 6, 7, 8] rfl)
      subst hR9; subst hQ9
      refine lv_if_eq (tgt := 90) hx hb dL_way_83 (by decide) (fun c_18 => ?_) (fun c_18 => ?_)
      · refine lv_iconst (v := 1) hx hb dL_way_90 (by decide) ?_
        exact J91 (1 : Int32) (by unfold jL_way_91_0; rw [if_pos c_18]) _ _ _ hP hD hS (lv_sub hl [0, 1, 2, 3, 4, 5, 6, 7] rfl)
      · refine lv_iconst (v := 0) hx hb dL_way_86 (by decide) ?_
        refine lv_goto (tgt := 91) hx hb dL_way_87 (by decide) ?_
        exact J91 (0 : Int32) (by unfold jL_way_91_0; rw [if_neg c_18]) _ _ _ hP hD hS (lv_sub hl [0, 1, 2, 3, 4, 5, 6, 7] rfl)
    · refine lv_iconst (v := -1) hx hb dL_way_21 (by decide) ?_
      refine W.widen (k := 2) (n := 28) (by decide) (by decide) ?_
      exact W.iret (v := (-1 : Int32)) hx hb hr (fun t ht hW => ⟨⟨(-1 : Int32), (), rfl, (by unfold rL_way; rw [if_pos c_1, if_pos c_2]), (by rw [ht]; exact hP.sub [0, 1, 2, 3] rfl), va_K.moved hW.alike hK, hD.sub [0, 1, 2, 3] (by decide) rfl⟩, hS.F ht⟩) hS.2.2 dL_way_22
