/-! what a walk stands on: the things beside a world that no method changes; calls and ends, packed -/
def zNw : List Cond := [.methodLinkNest RX7 9 yX0_init "MaskHall", .methodLinkNest RX7 25 yX5_init "MaskHall", .methodLinkNest RX7 55 yX1_init "MaskHall", .methodLinkNest RX3 58 yX7_isIn "MaskHall", .methodLinkNest RX2 30 yX7_isIn "MaskHall", .methodLinkNest RX4 43 yX7_isIn "MaskHall", .methodLinkNest RX6 84 yX7_isIn "MaskHall"]
def zSt : List (Nat × String) := [(248, "there is no such mask"), (250, "there is no such secret"), (252, "there is no such prop"), (254, "an argument is out of range"), (256, "both masks are the same"), (260, "a night plays"), (116, "the canvas has no room for another step"), (141, "there is no room for another gag"), (146, "the canvas is empty"), (258, "no night plays"), (167, "the mask is ill, or on already"), (262, "the mask is not on"), (180, "the mask does not know the secret, or it is banned"), (185, "the mask does not have the prop"), (187, "somebody has the prop"), (191, "there is no such gag"), (197, "the mask does not have the prop of the gag"), (245, "there is no such thing to count")]
def zXn (k : Nat) : String := match k with
  | 1 => "java/lang/IndexOutOfBoundsException"
  | 2 => "java/lang/IllegalArgumentException"
  | _ => "java/lang/IllegalStateException"
def zNc : List (String × String) := [(zXn 2, zXn 1), (zXn 3, zXn 1), (zXn 3, zXn 2)]
def zDe : List MethodName := [Bundle.initS "java/lang/RuntimeException", Bundle.initS "java/lang/Exception", Bundle.initS Bundle.tN]
def zE (U : State) : Prop := (∀ q ∈ zNw, va_Nw q U) ∧ (∀ q ∈ zSt, ∃ sa, vk_R RX7 q.1 q.2 sa U) ∧ (∀ q ∈ zNc, va_Nc q.1 q.2 U) ∧ (∀ k : Nat, va_Nw (.castable (zXn k) (zXn k)) U) ∧ (∀ q ∈ zDe, va_Nw (.declares q) U)
theorem zNw_form : ∀ q ∈ zNw, ∃ (a : String) (i : Nat) (x : MethodName) (h : String), q = .methodLinkNest a i x h := by
  intro q hq
  simp only [zNw, List.mem_cons, List.not_mem_nil, or_false] at hq
  rcases hq with rfl | rfl | rfl | rfl | rfl | rfl | rfl <;> exact ⟨_, _, _, _, rfl⟩
theorem zE.warm {s U : State} (hW : s.WarmedH U.vm) (h : zE s) : zE U := by
  refine ⟨fun q hq => ?_, fun q hq => ?_, fun q hq => va_Nc.moved hW.alike (h.2.2.1 q hq), fun k => va_Nw.warmC hW (h.2.2.2.1 k), fun q hq => va_Nw.warmD hW (h.2.2.2.2 q hq)⟩
  · obtain ⟨a, i, x, y, rfl⟩ := zNw_form q hq
    exact va_Nw.warmM hW (h.1 _ hq)
  · obtain ⟨sa, hs⟩ := h.2.1 q hq
    exact ⟨sa, vk_R.warm hW hs⟩
theorem zE.same {u U : State} (hv : U.vm = u.vm) (h : zE u) : zE U := by
  refine ⟨fun q hq => ?_, fun q hq => ?_, fun q hq => va_Nc.moved (by rw [hv]; exact Vm.Alike.refl _) (h.2.2.1 q hq), fun k => va_Nw.same rfl hv.symm (h.2.2.2.1 k), fun q hq => va_Nw.same rfl hv.symm (h.2.2.2.2 q hq)⟩
  · obtain ⟨a, i, x, y, rfl⟩ := zNw_form q hq
    exact va_Nw.same rfl hv.symm (h.1 _ hq)
  · obtain ⟨sa, hs⟩ := h.2.1 q hq
    exact ⟨sa, vk_R.same hv hs⟩
def zKT (j : Nat) : Int64 := match j with
  | 0 => -6148914691236517206
  | 1 => -3689348814741910324
  | 2 => -1085102592571150096
  | 3 => -71777214294589696
  | 4 => -281470681808896
  | _ => -4294967296
def zS2 (A : Nat → Prop) (U : State) (H : Heap) : Prop := vx_Zq Bundle.tN "UNASSIGNED_STACK" Bundle.steD A U H ∧ vx_Zq Bundle.tN "SUPPRESSED_SENTINEL" Bundle.listD A U H
def zKN (A : Nat → Prop) (U : State) (H : Heap) : Prop := ∃ t : Nat, va_Z RX6 "KNOWN_TO" "[J" (.ref t) A U H ∧ va_T .long t 6 (fun j => .long (zKT j)) A U H
def zG (A : Nat → Prop) (U : State) : Prop := zE U ∧ zS2 A U U.heap ∧ zKN A U U.heap
theorem zG.call {A : Nat → Prop} {U : State} (h : zG A U) (g : JFrame) (mk : MethodId) (a : Array Value) : zG A (U.calling g mk a) := by
  obtain ⟨h1, ⟨h2, h3⟩, t, h4, h5⟩ := h
  exact ⟨zE.same (u := U) (U := U.calling g mk a) rfl h1, ⟨vx_Zq.moved (u := U) (U := U.calling g mk a) (Vm.Alike.refl U.vm) h2, vx_Zq.moved (u := U) (U := U.calling g mk a) (Vm.Alike.refl U.vm) h3⟩, t, va_Z.moved (u := U) (U := U.calling g mk a) (Vm.Alike.refl U.vm) h4, va_T.moved (u := U) (U := U.calling g mk a) (Vm.Alike.refl U.vm) h5⟩
theorem zG.at {A B : Nat → Prop} {s U : State} {H : Heap} {locs : List Loc} (hG : zG A s) (hS : va_S A s.heap H locs) (hF : ∀ q, B q → A q) (hU : U.heap = H) (hW : s.WarmedH U.vm) : zG B U := by
  obtain ⟨h1, ⟨h2, h3⟩, t, h4, h5⟩ := hG
  subst hU
  exact ⟨h1.warm hW, ⟨((h2.kept hS.2.1).narrow hF).moved hW.alike, ((h3.kept hS.2.1).narrow hF).moved hW.alike⟩, t, ((h4.kept hS.2.1).narrow hF).moved hW.alike, ((h5.kept hS.2.1).narrow hF).moved hW.alike⟩
def zI (D : va_G) (tys : List (ClassId × FieldType)) (ws : va_W) (sz : Nat) (U : State) : Prop := U.heap.size = sz ∧ va_P D vwCl ws U.heap ∧ va_K D vwCl tys U ∧ va_D (fun _ => True) ws ∧ zG (va_A ws sz) U
def zO (D : va_G) (tys : List (ClassId × FieldType)) (ws : va_W) (A : Nat → Prop) (t : State) : Prop := va_P D vwCl ws t.heap ∧ va_K D vwCl tys t ∧ va_D A ws
theorem zI.blind {D : va_G} {tys : List (ClassId × FieldType)} {ws : va_W} {sz : Nat} {av : List Value} : FrameBlind (va_Pc av (zI D tys ws sz)) := by
  intro a U g mk h
  obtain ⟨h1, h2, h3, h4, h5, h6⟩ := h
  exact ⟨h1, h2, h3, va_K.moved (u := U) (U := U.calling g mk a) (Vm.Alike.refl U.vm) h4, h5, h6.call g mk a⟩
section ZCALL
variable {p : Program} {l : Launch} {e : Env} {R : Room} {s : State} {m : MethodId} {args : Array Value} {below : List Frame} {meth : Method} {c : Code} {H : Heap} {locs : List Loc} {cells slots : Nat} {Q : State → Prop}
variable {D : va_G} {tys : List (ClassId × FieldType)} {ws wc wr : va_W} {A : Nat → Prop} {pc : Nat} {ls : Array Slot} {rest st0 : List Value} {a : Array Value} {mc ms : Nat}
theorem zI.at (hK : va_K D vwCl tys s) (hP : va_P D vwCl ws H) (hD : va_D A ws) (hS : va_S A s.heap H locs) (hA : ∀ q, s.heap.size ≤ q → A q) (hG : zG A s) (isC : List Nat) (hn : va_nd isC = true) (hC : isC.map (fun i => ws[i]?) = wc.map some) {U : State} (hU : U.heap = H) (hW : s.WarmedH U.vm) : zI D tys wc H.size U := by
  refine ⟨by rw [hU], ?_, va_K.moved hW.alike hK, (hD.sub isC hn hC).weaken (fun _ _ _ _ => trivial), hG.at hS (va_free hD hS hA isC hC) hU hW⟩
  rw [hU]
  refine hP.sub isC ?_
  have h : ∀ (l : List Nat) (w : va_W), l.map (fun i => ws[i]?) = w.map some → l.filterMap (fun i => ws[i]?) = w := by
    intro l
    induction l with
    | nil => intro w h; cases w with
      | nil => rfl
      | cons x xs => cases h
    | cons i is ih => intro w h; cases w with
      | nil => cases h
      | cons x xs =>
        rw [List.map_cons, List.map_cons, List.cons.injEq] at h
        rw [List.filterMap_cons, h.1, ih xs h.2]
  exact h isC wc hC
theorem zpS {As : List Value} (hK : va_K D vwCl tys s) (hP : va_P D vwCl ws H) (hD : va_D A ws) (hS : va_S A s.heap H locs) (hA : ∀ q, s.heap.size ≤ q → A q) (hG : zG A s) (isC : List Nat) (hn : va_nd isC = true) (hC : isC.map (fun i => ws[i]?) = wc.map some) : PreS s H (va_Pc As (zI D tys wc H.size)) As :=
  ⟨zI.blind, fun _ hU hW => ⟨rfl, zI.at hK hP hD hS hA hG isC hn hC hU hW⟩⟩
theorem zpV {As : List Value} {C : String} {b : Nat} {T : u_T} {N : Nat} {fs : List Value} (hK : va_K D vwCl tys s) (hP : va_P D vwCl ws H) (hD : va_D A ws) (hS : va_S A s.heap H locs) (hA : ∀ q, s.heap.size ≤ q → A q) (hG : zG A s) (isC : List Nat) (hn : va_nd isC = true) (hC : isC.map (fun i => ws[i]?) = wc.map some) (ci q0 : Nat) (hc : vwCl[ci]? = some (C, T, N)) (he : ws[q0]? = some (b, .inr (ci, fs))) : PreV s H C b (va_Pc (.ref b :: As) (zI D tys wc H.size)) As :=
  ⟨zI.blind, va_recv hK hP hc he, fun _ hU hW => ⟨rfl, zI.at hK hP hD hS hA hG isC hn hC hU hW⟩⟩
/-- behind a call that may write: the world again, joined -/
theorem zjI {S : Type} {post : Int32 → S → Prop} {W1 : S → va_W} (hr : va_Run p l e R s m args below meth c H locs cells slots mc ms (F0 m pc ls st0) rest (va_Qi post (fun u => zO D tys (W1 u) (va_A wc H.size)) (va_A wc H.size) a) (va_A wc H.size)) (hP : va_P D vwCl ws H) (hD : va_D A ws) (hS : va_S A s.heap H locs) (hA : ∀ q, s.heap.size ≤ q → A q) (isC isR : List Nat) (hC : isC.map (fun i => ws[i]?) = wc.map some) (hR : isR.map (fun i => ws[i]?) = wr.map some) (hn : va_nd isR = true) (hdis : ∀ i ∈ isR, i ∉ isC)
    (kk : ∀ (r : Int32) (u : S) (H1 : Heap) (locs1 : List Loc), post r u → va_P D vwCl (wr ++ W1 u) H1 → va_D A (wr ++ W1 u) → va_S A s.heap H1 locs1 → W p l e R s m args below meth c H1 locs1 (cells + mc) (slots + ms) Q (F0 m (pc + 3) ls (.int r :: rest))) : W p l e R s m args below meth c H locs cells slots Q (F0 m pc ls st0) := by
  have hF := va_free hD hS hA isC hC
  refine va_calli hr hS (fun q _ h => hF q h) hF (fun r u t H1 locs1 ht hvm hw hB hz1 hk1 hS1 => ?_)
  obtain ⟨hP1, hK1, hD1⟩ := hB
  rw [ht] at hP1
  obtain ⟨hP2, hD2⟩ := va_join (wr := wr) (w1 := W1 u) hP hD isC isR hC hR hn hdis hk1 hF hP1 hD1
  exact kk r u H1 locs1 hw hP2 hD2 hS1
theorem zjV {S : Type} {post : S → Prop} {W1 : S → va_W} (hr : va_Run p l e R s m args below meth c H locs cells slots mc ms (F0 m pc ls st0) rest (va_Qv post (fun u => zO D tys (W1 u) (va_A wc H.size)) (va_A wc H.size) a) (va_A wc H.size)) (hP : va_P D vwCl ws H) (hD : va_D A ws) (hS : va_S A s.heap H locs) (hA : ∀ q, s.heap.size ≤ q → A q) (isC isR : List Nat) (hC : isC.map (fun i => ws[i]?) = wc.map some) (hR : isR.map (fun i => ws[i]?) = wr.map some) (hn : va_nd isR = true) (hdis : ∀ i ∈ isR, i ∉ isC)
    (kk : ∀ (u : S) (H1 : Heap) (locs1 : List Loc), post u → va_P D vwCl (wr ++ W1 u) H1 → va_D A (wr ++ W1 u) → va_S A s.heap H1 locs1 → W p l e R s m args below meth c H1 locs1 (cells + mc) (slots + ms) Q (F0 m (pc + 3) ls rest)) : W p l e R s m args below meth c H locs cells slots Q (F0 m pc ls st0) := by
  have hF := va_free hD hS hA isC hC
  refine va_callv hr hS (fun q _ h => hF q h) hF (fun u t H1 locs1 ht hvm hw hB hz1 hk1 hS1 => ?_)
  obtain ⟨hP1, hK1, hD1⟩ := hB
  rw [ht] at hP1
  obtain ⟨hP2, hD2⟩ := va_join (wr := wr) (w1 := W1 u) hP hD isC isR hC hR hn hdis hk1 hF hP1 hD1
  exact kk u H1 locs1 hw hP2 hD2 hS1
theorem zTight {T : State} (X : Stand p l e R s m args below meth c T locs cells slots) (h : T.heap.size = s.heap.size) : Stand p l e R s m args below meth c T locs 0 0 := by
  obtain ⟨h1, h2, h3, h4, h5, h6⟩ := X.same
  have hh : (T.setVm s.vm).heap.size = s.heap.size := h
  refine ⟨X.admits, X.cas, X.clock, X.frames, X.room, X.hears, X.method, X.code, X.here, X.tail, X.warmed, X.limits, X.bytes, ⟨h1, h2, by omega, h4, ?_, h6⟩⟩
  rw [List.drop_eq_nil_of_le (by rw [Array.length_toList, hh]; exact Nat.le_refl _)]
  exact Nat.le_refl _
/-- where nothing was made, the heap is as large as it was -/
theorem zSize {g : JFrame} (k : H.size = s.heap.size → W p l e R s m args below meth c H locs 0 0 Q g) : W p l e R s m args below meth c H locs 0 0 Q g := by
  intro T hT X
  have h1 := X.heapSize
  have h2 : s.heap.size ≤ T.heap.size := X.same.2.1
  exact k (by rw [← hT]; omega) T hT X
/-- what a method that may throw says where it throws: the number of the class, and that no old cell has changed -/
def zX (px : Nat → Prop) (sz : Nat) : String → State → State → Prop := vx_X px (fun E k _ => E = zXn k) (fun q => sz ≤ q)
/-- a call that may throw, of a method that writes nothing where it returns -/
theorem zxSv {post : Unit → Prop} {px : Nat → Prop} {free : Addr → Prop} (hr : vx_Run p l e R s m args below meth c H locs 0 0 mc ms (F0 m pc ls st0) rest (va_Sv post a) (zX px H.size) free) (hf : ∀ q, ¬ free q) (hS : va_S A s.heap H locs) (hA : ∀ q, s.heap.size ≤ q → A q)
    (kx : ∀ (k : Nat) (ce : Cell) (q9 : Addr) (H1 : Heap) (locs1 : List Loc), px k → H.size ≤ H1.size → (∀ q : Nat, q < H.size → H1[q]? = H[q]?) → va_S A s.heap H1 locs1 → (locs = [] → locs1 = []) → H1[q9]? = some ce → ce.vm = .none → s.vm.findClass (zXn k) = some ce.cls → vx_W p l e R s m args below meth c H1 locs1 mc ms Q (F0 m pc ls rest) q9)
    (kk : post () → W p l e R s m args below meth c H locs 0 0 Q (F0 m (pc + 3) ls rest)) : W p l e R s m args below meth c H locs 0 0 Q (F0 m pc ls st0) := by
  intro T hT X
  have hz : H.size = s.heap.size := by
    have h1 := X.heapSize
    have h2 : s.heap.size ≤ T.heap.size := X.same.2.1
    rw [← hT]; omega
  rcases hr T hT X with ⟨v, st₀, t, T', L, h0, X', hL, e1, e2, ⟨hv, hp, hh⟩, st⟩ | ⟨q, st₀, t, T', L, E, ce, h0, X', hL, e1, e2, ⟨k, hp, hE, hz1, hk1⟩, hce, hcv, hcl, st⟩
  · cases hv
    have hLn : L = [] := List.eq_nil_iff_forall_not_mem.mpr fun q hq => hf _ (hL q hq)
    subst hLn
    rw [List.append_nil] at X'
    have hT' : T'.heap = H := by rw [e1, hh, h0]
    obtain ⟨t2, a1, b1⟩ := kk hp T' hT' (zTight X' (by rw [hT', hz]))
    exact ⟨t2, st t2 a1, b1⟩
  · have hLn : L = [] := List.eq_nil_iff_forall_not_mem.mpr fun q hq => hf _ (hL q hq)
    subst hLn
    rw [List.append_nil] at X'
    rw [Nat.zero_add, Nat.zero_add] at X'
    subst hE
    rw [h0] at hz1 hk1
    have hk2 : ∀ q : Nat, q < H.size → T'.heap[q]? = H[q]? := fun q hq => by rw [e1]; exact hk1 q hq (Nat.not_le.mpr hq)
    obtain ⟨t2, a1, b1⟩ := kx k ce q T'.heap locs hp (by rw [e1]; exact hz1) hk2 ⟨Nat.le_trans hS.1 (by rw [e1]; exact hz1), fun q h1 h2 => by rw [hk2 q (Nat.lt_of_lt_of_le h1 hS.1)]; exact hS.2.1 q h1 h2, hS.2.2⟩ (fun h => h) (by rw [e1]; exact hce) hcv hcl T' rfl X'
    exact ⟨t2, st.trans a1, b1⟩
/-- a call of a method that only reads, and may throw, answering a number -/
theorem zxSi {post : Int32 → Prop} {px : Nat → Prop} {free : Addr → Prop} (hr : vx_Run p l e R s m args below meth c H locs 0 0 mc ms (F0 m pc ls st0) rest (vp_Si post a) (zX px H.size) free) (hf : ∀ q, ¬ free q) (hS : va_S A s.heap H locs) (hA : ∀ q, s.heap.size ≤ q → A q)
    (kx : ∀ (k : Nat) (ce : Cell) (q9 : Addr) (H1 : Heap) (locs1 : List Loc), px k → H.size ≤ H1.size → (∀ q : Nat, q < H.size → H1[q]? = H[q]?) → va_S A s.heap H1 locs1 → (locs = [] → locs1 = []) → H1[q9]? = some ce → ce.vm = .none → s.vm.findClass (zXn k) = some ce.cls → vx_W p l e R s m args below meth c H1 locs1 mc ms Q (F0 m pc ls rest) q9)
    (kk : ∀ r : Int32, post r → W p l e R s m args below meth c H locs 0 0 Q (F0 m (pc + 3) ls (.int r :: rest))) : W p l e R s m args below meth c H locs 0 0 Q (F0 m pc ls st0) := by
  intro T hT X
  have hz : H.size = s.heap.size := by
    have h1 := X.heapSize
    have h2 : s.heap.size ≤ T.heap.size := X.same.2.1
    rw [← hT]; omega
  rcases hr T hT X with ⟨v, st₀, t, T', L, h0, X', hL, e1, e2, ⟨r, hv, hp, hh⟩, st⟩ | ⟨q, st₀, t, T', L, E, ce, h0, X', hL, e1, e2, ⟨k, hp, hE, hz1, hk1⟩, hce, hcv, hcl, st⟩
  · cases hv
    have hLn : L = [] := List.eq_nil_iff_forall_not_mem.mpr fun q hq => hf _ (hL q hq)
    subst hLn
    rw [List.append_nil] at X'
    have hT' : T'.heap = H := by rw [e1, hh, h0]
    obtain ⟨t2, a1, b1⟩ := kk r hp T' hT' (zTight X' (by rw [hT', hz]))
    exact ⟨t2, st t2 a1, b1⟩
  · have hLn : L = [] := List.eq_nil_iff_forall_not_mem.mpr fun q hq => hf _ (hL q hq)
    subst hLn
    rw [List.append_nil] at X'
    rw [Nat.zero_add, Nat.zero_add] at X'
    subst hE
    rw [h0] at hz1 hk1
    have hk2 : ∀ q : Nat, q < H.size → T'.heap[q]? = H[q]? := fun q hq => by rw [e1]; exact hk1 q hq (Nat.not_le.mpr hq)
    obtain ⟨t2, a1, b1⟩ := kx k ce q T'.heap locs hp (by rw [e1]; exact hz1) hk2 ⟨Nat.le_trans hS.1 (by rw [e1]; exact hz1), fun q h1 h2 => by rw [hk2 q (Nat.lt_of_lt_of_le h1 hS.1)]; exact hS.2.1 q h1 h2, hS.2.2⟩ (fun h => h) (by rw [e1]; exact hce) hcv hcl T' rfl X'
    exact ⟨t2, st.trans a1, b1⟩
end ZCALL
/-- names for the room and the end -/
theorem zNm {p : Program} {l : Launch} {e : Env} {R : Room} {s : State} {m : MethodId} {args : Array Value} {below : List Frame} {meth : Method} {c : Code} {H : Heap} {locs : List Loc} {cells slots : Nat} {Q : State → Prop} {g : JFrame} (k : ∀ (R9 : Room) (Q9 : State → Prop), R9 = R → Q9 = Q → W p l e R9 s m args below meth c H locs cells slots Q9 g) : W p l e R s m args below meth c H locs cells slots Q g := k _ _ rfl rfl
theorem zNar {v : Int32} (h : v = 0 ∨ v = 1) : narrow .boolean (.int v) = .int v := by
  rcases h with rfl | rfl <;> rfl
/-- an index that was looked at -/
theorem zin_a {x y : Int32} {n : Nat} (h1 : ¬ x < 0) (h2 : ¬ y ≤ x) (h3 : y.toInt ≤ n) : vp_in x n := by
  rw [vp_in_iff]
  rw [Int32.lt_iff_toInt_lt] at h1
  rw [Int32.le_iff_toInt_le] at h2
  simp at h1
  omega
theorem zin_b {x : Int32} {n : Nat} (h1 : 0 ≤ x.toInt) (h2 : x.toInt < n) : vp_in x n := vp_in_iff.mpr ⟨h1, h2⟩
theorem zEq_of_toInt {x y : Int32} (h : x.toInt = y.toInt) : x = y := Int32.toInt_inj.mp h
/-! the words of a throw -/
abbrev zNm2 : List String := ["java/lang/RuntimeException", "java/lang/Exception"]
theorem zHat1_193 {args : Array Value} {s : State} (hE : zE s) (h1 : ∀ w ∈ (vx_atS RX7 193 "java/lang/IndexOutOfBoundsException" zNm2).filter goodWord, w.before args s = true) : ∀ w ∈ vx_atS RX7 193 "java/lang/IndexOutOfBoundsException" zNm2, w.before args s = true := vx_hat (B := [.castable (zXn 1) (zXn 1), .declares (Bundle.initS "java/lang/RuntimeException"), .declares (Bundle.initS "java/lang/Exception"), .declares (Bundle.initS Bundle.tN)]) h1 (by decide +kernel) (vx_c (va_Nw.use rfl (hE.2.2.2.1 1)) (vx_c (va_Nw.use rfl (hE.2.2.2.2 _ (List.mem_of_getElem? (i := 0) rfl))) (vx_c (va_Nw.use rfl (hE.2.2.2.2 _ (List.mem_of_getElem? (i := 1) rfl))) (vx_c (va_Nw.use rfl (hE.2.2.2.2 _ (List.mem_of_getElem? (i := 2) rfl))) vx_n))))
theorem zHat2_247 {args : Array Value} {s : State} (hE : zE s) (h1 : ∀ w ∈ (vx_atS RX7 247 "java/lang/IllegalArgumentException" zNm2).filter goodWord, w.before args s = true) : ∀ w ∈ vx_atS RX7 247 "java/lang/IllegalArgumentException" zNm2, w.before args s = true := vx_hat (B := [.castable (zXn 2) (zXn 2), .declares (Bundle.initS "java/lang/RuntimeException"), .declares (Bundle.initS "java/lang/Exception"), .declares (Bundle.initS Bundle.tN)]) h1 (by decide +kernel) (vx_c (va_Nw.use rfl (hE.2.2.2.1 2)) (vx_c (va_Nw.use rfl (hE.2.2.2.2 _ (List.mem_of_getElem? (i := 0) rfl))) (vx_c (va_Nw.use rfl (hE.2.2.2.2 _ (List.mem_of_getElem? (i := 1) rfl))) (vx_c (va_Nw.use rfl (hE.2.2.2.2 _ (List.mem_of_getElem? (i := 2) rfl))) vx_n))))
theorem zHat3_118 {args : Array Value} {s : State} (hE : zE s) (h1 : ∀ w ∈ (vx_atS RX7 118 "java/lang/IllegalStateException" zNm2).filter goodWord, w.before args s = true) : ∀ w ∈ vx_atS RX7 118 "java/lang/IllegalStateException" zNm2, w.before args s = true := vx_hat (B := [.castable (zXn 3) (zXn 3), .declares (Bundle.initS "java/lang/RuntimeException"), .declares (Bundle.initS "java/lang/Exception"), .declares (Bundle.initS Bundle.tN)]) h1 (by decide +kernel) (vx_c (va_Nw.use rfl (hE.2.2.2.1 3)) (vx_c (va_Nw.use rfl (hE.2.2.2.2 _ (List.mem_of_getElem? (i := 0) rfl))) (vx_c (va_Nw.use rfl (hE.2.2.2.2 _ (List.mem_of_getElem? (i := 1) rfl))) (vx_c (va_Nw.use rfl (hE.2.2.2.2 _ (List.mem_of_getElem? (i := 2) rfl))) vx_n))))
theorem zGood1_193_189 : ∀ w ∈ Cond.classLink RX7 189 "java/lang/IndexOutOfBoundsException" :: Cond.initialized "java/lang/IndexOutOfBoundsException" :: vx_atS RX7 193 "java/lang/IndexOutOfBoundsException" zNm2, vx_ot w = true := by decide +kernel
theorem zGood2_247_243 : ∀ w ∈ Cond.classLink RX7 243 "java/lang/IllegalArgumentException" :: Cond.initialized "java/lang/IllegalArgumentException" :: vx_atS RX7 247 "java/lang/IllegalArgumentException" zNm2, vx_ot w = true := by decide +kernel
theorem zGood3_118_114 : ∀ w ∈ Cond.classLink RX7 114 "java/lang/IllegalStateException" :: Cond.initialized "java/lang/IllegalStateException" :: vx_atS RX7 118 "java/lang/IllegalStateException" zNm2, vx_ot w = true := by decide +kernel
theorem zin_c {x y : Int32} {n : Nat} (h1 : 0 ≤ x.toInt) (h2 : ¬ y ≤ x) (h3 : y.toInt ≤ n) : vp_in x n := by
  rw [vp_in_iff]
  rw [Int32.le_iff_toInt_le] at h2
  omega
theorem zin_d {x y : Int32} {n : Nat} (h1 : 0 ≤ x.toInt) (h2 : ¬ y ≤ x) (h3 : y.toInt ≤ n) : vp_in x n := zin_c h1 h2 h3
theorem zInc {x y : Int32} (h : ¬ y ≤ x) : (x + 1).toInt = x.toInt + 1 := by
  rw [Int32.le_iff_toInt_le] at h
  have h1 := Int32.toInt_lt y
  have h2 := Int32.le_toInt x
  rw [Int32.toInt_add, show (1 : Int32).toInt = 1 from rfl, Int.bmod_eq_of_le (by omega) (by omega)]
theorem zMax0 (x : Int32) : 0 ≤ (if x < (0 : Int32) then (0 : Int32) else x).toInt := by
  split
  · decide
  · rename_i h
    rw [Int32.lt_iff_toInt_lt] at h
    simpa using h
theorem zGo {x y : Int32} (h : ¬ y ≤ x) : x.toInt < y.toInt := by
  rw [Int32.le_iff_toInt_le] at h
  omega
theorem zOut2_4 {x : Int32} (h2 : ¬ x = 2) (h3 : ¬ x = 3) (h4 : ¬ x = 4) : x.toInt < 2 ∨ 4 < x.toInt := by
  have e : ∀ k : Int32, ¬ x = k → x.toInt ≠ k.toInt := fun k h g => h (zEq_of_toInt g)
  have a2 : x.toInt ≠ 2 := e 2 h2
  have a3 : x.toInt ≠ 3 := e 3 h3
  have a4 : x.toInt ≠ 4 := e 4 h4
  omega
theorem zOut0_3 {x : Int32} (h0 : ¬ x = 0) (h1 : ¬ x = 1) (h2 : ¬ x = 2) (h3 : ¬ x = 3) : x.toInt < 0 ∨ 3 < x.toInt := by
  have e : ∀ k : Int32, ¬ x = k → x.toInt ≠ k.toInt := fun k h g => h (zEq_of_toInt g)
  have a0 : x.toInt ≠ 0 := e 0 h0
  have a1 : x.toInt ≠ 1 := e 1 h1
  have a2 : x.toInt ≠ 2 := e 2 h2
  have a3 : x.toInt ≠ 3 := e 3 h3
  omega
theorem zOut0_5 {x : Int32} (h0 : ¬ x = 0) (h1 : ¬ x = 1) (h2 : ¬ x = 2) (h3 : ¬ x = 3) (h4 : ¬ x = 4) (h5 : ¬ x = 5) : x.toInt < 0 ∨ 5 < x.toInt := by
  have e : ∀ k : Int32, ¬ x = k → x.toInt ≠ k.toInt := fun k h g => h (zEq_of_toInt g)
  have a0 : x.toInt ≠ 0 := e 0 h0
  have a1 : x.toInt ≠ 1 := e 1 h1
  have a2 : x.toInt ≠ 2 := e 2 h2
  have a3 : x.toInt ≠ 3 := e 3 h3
  have a4 : x.toInt ≠ 4 := e 4 h4
  have a5 : x.toInt ≠ 5 := e 5 h5
  omega
theorem zOut1_4 {x : Int32} (h1 : ¬ x = 1) (h2 : ¬ x = 2) (h3 : ¬ x = 3) (h4 : ¬ x = 4) : x.toInt < 1 ∨ 4 < x.toInt := by
  have e : ∀ k : Int32, ¬ x = k → x.toInt ≠ k.toInt := fun k h g => h (zEq_of_toInt g)
  have a1 : x.toInt ≠ 1 := e 1 h1
  have a2 : x.toInt ≠ 2 := e 2 h2
  have a3 : x.toInt ≠ 3 := e 3 h3
  have a4 : x.toInt ≠ 4 := e 4 h4
  omega
theorem zOut0_4 {x : Int32} (h0 : ¬ x = 0) (h1 : ¬ x = 1) (h2 : ¬ x = 2) (h3 : ¬ x = 3) (h4 : ¬ x = 4) : x.toInt < 0 ∨ 4 < x.toInt := by
  have e : ∀ k : Int32, ¬ x = k → x.toInt ≠ k.toInt := fun k h g => h (zEq_of_toInt g)
  have a0 : x.toInt ≠ 0 := e 0 h0
  have a1 : x.toInt ≠ 1 := e 1 h1
  have a2 : x.toInt ≠ 2 := e 2 h2
  have a3 : x.toInt ≠ 3 := e 3 h3
  have a4 : x.toInt ≠ 4 := e 4 h4
  omega
theorem zOut0_25 {x : Int32} (h0 : ¬ x = 0) (h1 : ¬ x = 1) (h2 : ¬ x = 2) (h3 : ¬ x = 3) (h4 : ¬ x = 4) (h5 : ¬ x = 5) (h6 : ¬ x = 6) (h7 : ¬ x = 7) (h8 : ¬ x = 8) (h9 : ¬ x = 9) (h10 : ¬ x = 10) (h11 : ¬ x = 11) (h12 : ¬ x = 12) (h13 : ¬ x = 13) (h14 : ¬ x = 14) (h15 : ¬ x = 15) (h16 : ¬ x = 16) (h17 : ¬ x = 17) (h18 : ¬ x = 18) (h19 : ¬ x = 19) (h20 : ¬ x = 20) (h21 : ¬ x = 21) (h22 : ¬ x = 22) (h23 : ¬ x = 23) (h24 : ¬ x = 24) (h25 : ¬ x = 25) : x.toInt < 0 ∨ 25 < x.toInt := by
  have e : ∀ k : Int32, ¬ x = k → x.toInt ≠ k.toInt := fun k h g => h (zEq_of_toInt g)
  have a0 : x.toInt ≠ 0 := e 0 h0
  have a1 : x.toInt ≠ 1 := e 1 h1
  have a2 : x.toInt ≠ 2 := e 2 h2
  have a3 : x.toInt ≠ 3 := e 3 h3
  have a4 : x.toInt ≠ 4 := e 4 h4
  have a5 : x.toInt ≠ 5 := e 5 h5
  have a6 : x.toInt ≠ 6 := e 6 h6
  have a7 : x.toInt ≠ 7 := e 7 h7
  have a8 : x.toInt ≠ 8 := e 8 h8
  have a9 : x.toInt ≠ 9 := e 9 h9
  have a10 : x.toInt ≠ 10 := e 10 h10
  have a11 : x.toInt ≠ 11 := e 11 h11
  have a12 : x.toInt ≠ 12 := e 12 h12
  have a13 : x.toInt ≠ 13 := e 13 h13
  have a14 : x.toInt ≠ 14 := e 14 h14
  have a15 : x.toInt ≠ 15 := e 15 h15
  have a16 : x.toInt ≠ 16 := e 16 h16
  have a17 : x.toInt ≠ 17 := e 17 h17
  have a18 : x.toInt ≠ 18 := e 18 h18
  have a19 : x.toInt ≠ 19 := e 19 h19
  have a20 : x.toInt ≠ 20 := e 20 h20
  have a21 : x.toInt ≠ 21 := e 21 h21
  have a22 : x.toInt ≠ 22 := e 22 h22
  have a23 : x.toInt ≠ 23 := e 23 h23
  have a24 : x.toInt ≠ 24 := e 24 h24
  have a25 : x.toInt ≠ 25 := e 25 h25
  omega
theorem zin_e {x y : Int32} {n : Nat} (h1 : 0 ≤ x.toInt) (h2 : x < y) (h3 : y.toInt ≤ n) : vp_in x n := by
  rw [vp_in_iff]
  rw [Int32.lt_iff_toInt_lt] at h2
  omega
theorem zin_lt {x : Int32} {n : Nat} (h : vp_in x n) : x.toNatClampNeg < n := Nat.lt_of_not_le (fun q => h (Or.inr q))
theorem zAnd63 (x : Int32) : vp_in (x &&& 63) 64 := pk_andIn x 6 rfl (by decide)
theorem zInc2 {x y : Int32} (h : ¬ y < x) (hy : y.toInt < 2147483647) : (x + 1).toInt = x.toInt + 1 := by
  rw [Int32.lt_iff_toInt_lt] at h
  have h2 := Int32.le_toInt x
  rw [Int32.toInt_add, show (1 : Int32).toInt = 1 from rfl, Int.bmod_eq_of_le (by omega) (by omega)]
theorem zXor0 : ∀ a, a < 64 → ∀ b, b < 6 → (0 : Int) ≤ (nI a ^^^ ((1 : Int32) <<< (nI b &&& 31))).toInt ∧ (nI a ^^^ ((1 : Int32) <<< (nI b &&& 31))).toInt < 64 := by decide +kernel
theorem zXor {x y : Int32} (h1 : vp_in x 64) (h2 : vp_in y 6) : vp_in (x ^^^ ((1 : Int32) <<< (y &&& 31))) 64 := by
  obtain ⟨a, ha, rfl⟩ := vp_in_of h1 (by decide)
  obtain ⟨b, hb, rfl⟩ := vp_in_of h2 (by decide)
  exact zin_b (zXor0 a ha b hb).1 (zXor0 a ha b hb).2
theorem zin_f {x y : Int32} {n : Nat} (h1 : ¬ x < 0) (h2 : x < y) (h3 : y.toInt ≤ n) : vp_in x n := by
  rw [vp_in_iff]
  rw [Int32.lt_iff_toInt_lt] at h1 h2
  simp at h1
  omega
theorem zNlt {x y : Int32} (h : ¬ y < x) : x.toInt ≤ y.toInt := by
  rw [Int32.lt_iff_toInt_lt] at h
  omega
section ZCALL2
variable {p : Program} {l : Launch} {e : Env} {R : Room} {s : State} {m : MethodId} {args : Array Value} {below : List Frame} {meth : Method} {c : Code} {H : Heap} {locs : List Loc} {cells slots : Nat} {Q : State → Prop}
variable {D : va_G} {tys : List (ClassId × FieldType)} {ws wc wr : va_W} {A : Nat → Prop} {pc : Nat} {ls : Array Slot} {rest st0 : List Value} {a : Array Value} {mc ms : Nat}
theorem zkI {S : Type} {post : Int32 → S → Prop} {W1 : S → va_W} {r0 : Int32} {u0 : S} (hr : va_Run p l e R s m args below meth c H locs cells slots mc ms (F0 m pc ls st0) rest (va_Qi post (fun u => zO D tys (W1 u) (va_A wc H.size)) (va_A wc H.size) a) (va_A wc H.size)) (hp : ∀ r u, post r u → r = r0 ∧ u = u0) (hP : va_P D vwCl ws H) (hD : va_D A ws) (hS : va_S A s.heap H locs) (hA : ∀ q, s.heap.size ≤ q → A q) (isC isR : List Nat) (hC : isC.map (fun i => ws[i]?) = wc.map some) (hR : isR.map (fun i => ws[i]?) = wr.map some) (hn : va_nd isR = true) (hdis : ∀ i ∈ isR, i ∉ isC)
    (kk : ∀ (H1 : Heap) (locs1 : List Loc), va_P D vwCl (wr ++ W1 u0) H1 → va_D A (wr ++ W1 u0) → va_S A s.heap H1 locs1 → W p l e R s m args below meth c H1 locs1 (cells + mc) (slots + ms) Q (F0 m (pc + 3) ls (.int r0 :: rest))) : W p l e R s m args below meth c H locs cells slots Q (F0 m pc ls st0) :=
  zjI hr hP hD hS hA isC isR hC hR hn hdis (fun r u H1 locs1 hw => by
    obtain ⟨e1, e2⟩ := hp r u hw
    rw [e1, e2]
    exact kk H1 locs1)
theorem zkV {S : Type} {post : S → Prop} {W1 : S → va_W} {u0 : S} (hr : va_Run p l e R s m args below meth c H locs cells slots mc ms (F0 m pc ls st0) rest (va_Qv post (fun u => zO D tys (W1 u) (va_A wc H.size)) (va_A wc H.size) a) (va_A wc H.size)) (hp : ∀ u, post u → u = u0) (hP : va_P D vwCl ws H) (hD : va_D A ws) (hS : va_S A s.heap H locs) (hA : ∀ q, s.heap.size ≤ q → A q) (isC isR : List Nat) (hC : isC.map (fun i => ws[i]?) = wc.map some) (hR : isR.map (fun i => ws[i]?) = wr.map some) (hn : va_nd isR = true) (hdis : ∀ i ∈ isR, i ∉ isC)
    (kk : ∀ (H1 : Heap) (locs1 : List Loc), va_P D vwCl (wr ++ W1 u0) H1 → va_D A (wr ++ W1 u0) → va_S A s.heap H1 locs1 → W p l e R s m args below meth c H1 locs1 (cells + mc) (slots + ms) Q (F0 m (pc + 3) ls rest)) : W p l e R s m args below meth c H locs cells slots Q (F0 m pc ls st0) :=
  zjV hr hP hD hS hA isC isR hC hR hn hdis (fun u H1 locs1 hw => by
    have e2 := hp u hw
    rw [e2]
    exact kk H1 locs1)
theorem zcSi {r0 : Int32} (hr : va_Run p l e R s m args below meth c H locs cells slots 0 0 (F0 m pc ls st0) rest (vp_Si (fun r => r = r0) a) (fun _ => False)) (kk : W p l e R s m args below meth c H locs cells slots Q (F0 m (pc + 3) ls (.int r0 :: rest))) : W p l e R s m args below meth c H locs cells slots Q (F0 m pc ls st0) :=
  vp_callSi (va_Run.run hr) (fun r h => by rw [h]; exact kk)
theorem zcSl {r0 : Int64} (hr : va_Run p l e R s m args below meth c H locs cells slots 0 0 (F0 m pc ls st0) rest (vp_Sl (fun r => r = r0) a) (fun _ => False)) (kk : W p l e R s m args below meth c H locs cells slots Q (F0 m (pc + 3) ls (.long r0 :: rest))) : W p l e R s m args below meth c H locs cells slots Q (F0 m pc ls st0) :=
  vp_callSl (va_Run.run hr) (fun r h => by rw [h]; exact kk)
end ZCALL2
section ZTUP
variable {α1 α2 α3 α4 α5 α6 α7 α8 α9 α10 α11 α12 : Type}
theorem zT2 {u : α1 × α2} {a1 : α1} {a2 : α2} (h1 : u.1 = a1) (h2 : u.2 = a2) : u = (a1, a2) := by
  rw [← h1, ← h2]
theorem zT3 {u : α1 × α2 × α3} {a1 : α1} {a2 : α2} {a3 : α3} (h1 : u.1 = a1) (h2 : u.2.1 = a2) (h3 : u.2.2 = a3) : u = (a1, a2, a3) := by
  rw [← h1, ← h2, ← h3]
theorem zT4 {u : α1 × α2 × α3 × α4} {a1 : α1} {a2 : α2} {a3 : α3} {a4 : α4} (h1 : u.1 = a1) (h2 : u.2.1 = a2) (h3 : u.2.2.1 = a3) (h4 : u.2.2.2 = a4) : u = (a1, a2, a3, a4) := by
  rw [← h1, ← h2, ← h3, ← h4]
theorem zT5 {u : α1 × α2 × α3 × α4 × α5} {a1 : α1} {a2 : α2} {a3 : α3} {a4 : α4} {a5 : α5} (h1 : u.1 = a1) (h2 : u.2.1 = a2) (h3 : u.2.2.1 = a3) (h4 : u.2.2.2.1 = a4) (h5 : u.2.2.2.2 = a5) : u = (a1, a2, a3, a4, a5) := by
  rw [← h1, ← h2, ← h3, ← h4, ← h5]
theorem zT6 {u : α1 × α2 × α3 × α4 × α5 × α6} {a1 : α1} {a2 : α2} {a3 : α3} {a4 : α4} {a5 : α5} {a6 : α6} (h1 : u.1 = a1) (h2 : u.2.1 = a2) (h3 : u.2.2.1 = a3) (h4 : u.2.2.2.1 = a4) (h5 : u.2.2.2.2.1 = a5) (h6 : u.2.2.2.2.2 = a6) : u = (a1, a2, a3, a4, a5, a6) := by
  rw [← h1, ← h2, ← h3, ← h4, ← h5, ← h6]
theorem zT7 {u : α1 × α2 × α3 × α4 × α5 × α6 × α7} {a1 : α1} {a2 : α2} {a3 : α3} {a4 : α4} {a5 : α5} {a6 : α6} {a7 : α7} (h1 : u.1 = a1) (h2 : u.2.1 = a2) (h3 : u.2.2.1 = a3) (h4 : u.2.2.2.1 = a4) (h5 : u.2.2.2.2.1 = a5) (h6 : u.2.2.2.2.2.1 = a6) (h7 : u.2.2.2.2.2.2 = a7) : u = (a1, a2, a3, a4, a5, a6, a7) := by
  rw [← h1, ← h2, ← h3, ← h4, ← h5, ← h6, ← h7]
theorem zT8 {u : α1 × α2 × α3 × α4 × α5 × α6 × α7 × α8} {a1 : α1} {a2 : α2} {a3 : α3} {a4 : α4} {a5 : α5} {a6 : α6} {a7 : α7} {a8 : α8} (h1 : u.1 = a1) (h2 : u.2.1 = a2) (h3 : u.2.2.1 = a3) (h4 : u.2.2.2.1 = a4) (h5 : u.2.2.2.2.1 = a5) (h6 : u.2.2.2.2.2.1 = a6) (h7 : u.2.2.2.2.2.2.1 = a7) (h8 : u.2.2.2.2.2.2.2 = a8) : u = (a1, a2, a3, a4, a5, a6, a7, a8) := by
  rw [← h1, ← h2, ← h3, ← h4, ← h5, ← h6, ← h7, ← h8]
theorem zT9 {u : α1 × α2 × α3 × α4 × α5 × α6 × α7 × α8 × α9} {a1 : α1} {a2 : α2} {a3 : α3} {a4 : α4} {a5 : α5} {a6 : α6} {a7 : α7} {a8 : α8} {a9 : α9} (h1 : u.1 = a1) (h2 : u.2.1 = a2) (h3 : u.2.2.1 = a3) (h4 : u.2.2.2.1 = a4) (h5 : u.2.2.2.2.1 = a5) (h6 : u.2.2.2.2.2.1 = a6) (h7 : u.2.2.2.2.2.2.1 = a7) (h8 : u.2.2.2.2.2.2.2.1 = a8) (h9 : u.2.2.2.2.2.2.2.2 = a9) : u = (a1, a2, a3, a4, a5, a6, a7, a8, a9) := by
  rw [← h1, ← h2, ← h3, ← h4, ← h5, ← h6, ← h7, ← h8, ← h9]
theorem zT10 {u : α1 × α2 × α3 × α4 × α5 × α6 × α7 × α8 × α9 × α10} {a1 : α1} {a2 : α2} {a3 : α3} {a4 : α4} {a5 : α5} {a6 : α6} {a7 : α7} {a8 : α8} {a9 : α9} {a10 : α10} (h1 : u.1 = a1) (h2 : u.2.1 = a2) (h3 : u.2.2.1 = a3) (h4 : u.2.2.2.1 = a4) (h5 : u.2.2.2.2.1 = a5) (h6 : u.2.2.2.2.2.1 = a6) (h7 : u.2.2.2.2.2.2.1 = a7) (h8 : u.2.2.2.2.2.2.2.1 = a8) (h9 : u.2.2.2.2.2.2.2.2.1 = a9) (h10 : u.2.2.2.2.2.2.2.2.2 = a10) : u = (a1, a2, a3, a4, a5, a6, a7, a8, a9, a10) := by
  rw [← h1, ← h2, ← h3, ← h4, ← h5, ← h6, ← h7, ← h8, ← h9, ← h10]
theorem zT11 {u : α1 × α2 × α3 × α4 × α5 × α6 × α7 × α8 × α9 × α10 × α11} {a1 : α1} {a2 : α2} {a3 : α3} {a4 : α4} {a5 : α5} {a6 : α6} {a7 : α7} {a8 : α8} {a9 : α9} {a10 : α10} {a11 : α11} (h1 : u.1 = a1) (h2 : u.2.1 = a2) (h3 : u.2.2.1 = a3) (h4 : u.2.2.2.1 = a4) (h5 : u.2.2.2.2.1 = a5) (h6 : u.2.2.2.2.2.1 = a6) (h7 : u.2.2.2.2.2.2.1 = a7) (h8 : u.2.2.2.2.2.2.2.1 = a8) (h9 : u.2.2.2.2.2.2.2.2.1 = a9) (h10 : u.2.2.2.2.2.2.2.2.2.1 = a10) (h11 : u.2.2.2.2.2.2.2.2.2.2 = a11) : u = (a1, a2, a3, a4, a5, a6, a7, a8, a9, a10, a11) := by
  rw [← h1, ← h2, ← h3, ← h4, ← h5, ← h6, ← h7, ← h8, ← h9, ← h10, ← h11]
theorem zT12 {u : α1 × α2 × α3 × α4 × α5 × α6 × α7 × α8 × α9 × α10 × α11 × α12} {a1 : α1} {a2 : α2} {a3 : α3} {a4 : α4} {a5 : α5} {a6 : α6} {a7 : α7} {a8 : α8} {a9 : α9} {a10 : α10} {a11 : α11} {a12 : α12} (h1 : u.1 = a1) (h2 : u.2.1 = a2) (h3 : u.2.2.1 = a3) (h4 : u.2.2.2.1 = a4) (h5 : u.2.2.2.2.1 = a5) (h6 : u.2.2.2.2.2.1 = a6) (h7 : u.2.2.2.2.2.2.1 = a7) (h8 : u.2.2.2.2.2.2.2.1 = a8) (h9 : u.2.2.2.2.2.2.2.2.1 = a9) (h10 : u.2.2.2.2.2.2.2.2.2.1 = a10) (h11 : u.2.2.2.2.2.2.2.2.2.2.1 = a11) (h12 : u.2.2.2.2.2.2.2.2.2.2.2 = a12) : u = (a1, a2, a3, a4, a5, a6, a7, a8, a9, a10, a11, a12) := by
  rw [← h1, ← h2, ← h3, ← h4, ← h5, ← h6, ← h7, ← h8, ← h9, ← h10, ← h11, ← h12]
end ZTUP
