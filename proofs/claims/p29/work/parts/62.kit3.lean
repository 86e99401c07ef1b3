/-! calls that may throw and don't, here; remainders -/
def zRem (x y : Int32) : Int32 := x - x / y * y
section ZCALL4
variable {p : Program} {l : Launch} {e : Env} {R : Room} {s : State} {m : MethodId} {args : Array Value} {below : List Frame} {meth : Method} {c : Code} {H : Heap} {locs : List Loc} {cells slots : Nat} {Q : State → Prop}
variable {D : va_G} {tys : List (ClassId × FieldType)} {ws wc wr : va_W} {A : Nat → Prop} {pc : Nat} {ls : Array Slot} {rest st0 : List Value} {a : Array Value} {mc ms : Nat}
theorem zvRem {cc : ByteArray} (hexec : p.tables.exec = Jvm.exec) (hb : c.code = cc) {x y : Int32} (hdg : decode cc pc = .ok (.irem, 1)) (hne : ¬ y = 0)
    (k : W p l e R s m args below meth c H locs cells slots Q (F0 m (pc + 1) ls (.int (zRem x y) :: rest))) : W p l e R s m args below meth c H locs cells slots Q (F0 m pc ls (.int y :: .int x :: rest)) :=
  lv_irem hexec hb hdg hne k
theorem zSameC {T T' : State} {c9 s9 : Nat} (X : Stand p l e R s m args below meth c T locs cells slots) (X' : Stand p l e R s m args below meth c T' locs c9 s9) (h : T'.heap = T.heap) : Stand p l e R s m args below meth c T' locs cells slots := by
  obtain ⟨h1, h2, h3, h4, h5, h6⟩ := X'.same
  obtain ⟨k1, k2, k3, k4, k5, k6⟩ := X.same
  have hh : (T'.setVm s.vm).heap = (T.setVm s.vm).heap := h
  rw [← hh] at k3 k5
  exact ⟨X'.admits, X'.cas, X'.clock, X'.frames, X'.room, X'.hears, X'.method, X'.code, X'.here, X'.tail, X'.warmed, X'.limits, X'.bytes, ⟨h1, h2, k3, h4, k5, h6⟩⟩
/-- a call of a method that only reads and doesn't throw here, answering a number -/
theorem zxNi {post : Int32 → Prop} {px : Nat → Prop} {free : Addr → Prop} (hr : vx_Run p l e R s m args below meth c H locs cells slots mc ms (F0 m pc ls st0) rest (vp_Si post a) (zX px H.size) free) (hf : ∀ q, ¬ free q) (hx0 : ∀ k, ¬ px k)
    (kk : ∀ r : Int32, post r → W p l e R s m args below meth c H locs cells slots Q (F0 m (pc + 3) ls (.int r :: rest))) : W p l e R s m args below meth c H locs cells slots Q (F0 m pc ls st0) := by
  intro T hT X
  rcases hr T hT X with ⟨v, st₀, t, T', L, h0, X', hL, e1, e2, ⟨r, hv, hp, hh⟩, st⟩ | ⟨q, st₀, t, T', L, E, ce, h0, X', hL, e1, e2, ⟨k, hp, hE, hz1, hk1⟩, hce, hcv, hcl, st⟩
  · cases hv
    have hLn : L = [] := List.eq_nil_iff_forall_not_mem.mpr fun q hq => hf _ (hL q hq)
    subst hLn
    rw [List.append_nil] at X'
    have hT' : T'.heap = H := by rw [e1, hh, h0]
    obtain ⟨t2, a1, b1⟩ := kk r hp T' hT' (zSameC X X' (by rw [hT', hT]))
    exact ⟨t2, st t2 a1, b1⟩
  · exact absurd hp (hx0 k)
theorem zxNd {post : UInt64 → Prop} {px : Nat → Prop} {free : Addr → Prop} (hr : vx_Run p l e R s m args below meth c H locs cells slots mc ms (F0 m pc ls st0) rest (vp_Sd post a) (zX px H.size) free) (hf : ∀ q, ¬ free q) (hx0 : ∀ k, ¬ px k)
    (kk : ∀ r : UInt64, post r → W p l e R s m args below meth c H locs cells slots Q (F0 m (pc + 3) ls (.double r :: rest))) : W p l e R s m args below meth c H locs cells slots Q (F0 m pc ls st0) := by
  intro T hT X
  rcases hr T hT X with ⟨v, st₀, t, T', L, h0, X', hL, e1, e2, ⟨r, hv, hp, hh⟩, st⟩ | ⟨q, st₀, t, T', L, E, ce, h0, X', hL, e1, e2, ⟨k, hp, hE, hz1, hk1⟩, hce, hcv, hcl, st⟩
  · cases hv
    have hLn : L = [] := List.eq_nil_iff_forall_not_mem.mpr fun q hq => hf _ (hL q hq)
    subst hLn
    rw [List.append_nil] at X'
    have hT' : T'.heap = H := by rw [e1, hh, h0]
    obtain ⟨t2, a1, b1⟩ := kk r hp T' hT' (zSameC X X' (by rw [hT', hT]))
    exact ⟨t2, st t2 a1, b1⟩
  · exact absurd hp (hx0 k)
theorem zxV3 {S : Type} {post : S → Prop} {px : Nat → Prop} {W1 : S → va_W} {P0 : Prop} {u0 : S} (hr : vx_Run p l e R s m args below meth c H locs 0 0 mc ms (F0 m pc ls st0) rest (va_Qv post (fun u t => zO D tys (W1 u) (va_A wc H.size) t ∧ t.heap.size = H.size) (va_A wc H.size) a) (zX px H.size) (va_A wc H.size)) (hp : ∀ u, post u → P0 ∧ u = u0) (hP : va_P D vwCl ws H) (hD : va_D A ws) (hS : va_S A s.heap H locs) (hA : ∀ q, s.heap.size ≤ q → A q) (isC isR : List Nat) (hC : isC.map (fun i => ws[i]?) = wc.map some) (hR : isR.map (fun i => ws[i]?) = wr.map some) (hn : va_nd isR = true) (hdis : ∀ i ∈ isR, i ∉ isC)
    (kx : ∀ (k : Nat) (ce : Cell) (q9 : Addr) (H1 : Heap) (locs1 : List Loc), px k → H.size ≤ H1.size → (∀ q : Nat, q < H.size → H1[q]? = H[q]?) → va_S A s.heap H1 locs1 → H1[q9]? = some ce → ce.vm = .none → s.vm.findClass (zXn k) = some ce.cls → vx_W p l e R s m args below meth c H1 locs1 mc ms Q (F0 m pc ls rest) q9)
    (kk : ∀ (H1 : Heap) (locs1 : List Loc), P0 → va_P D vwCl (wr ++ W1 u0) H1 → va_D A (wr ++ W1 u0) → va_S A s.heap H1 locs1 → W p l e R s m args below meth c H1 locs1 0 0 Q (F0 m (pc + 3) ls rest)) : W p l e R s m args below meth c H locs 0 0 Q (F0 m pc ls st0) := by
  have hF := va_free hD hS hA isC hC
  intro T hT X
  have hz : H.size = s.heap.size := by
    have h1 := X.heapSize
    have h2 : s.heap.size ≤ T.heap.size := X.same.2.1
    rw [← hT]; omega
  rcases hr T hT X with ⟨v, st₀, t, T', L, h0, X', hL, e1, e2, ⟨⟨u, hv, hpo, ⟨hP1, hK1, hD1⟩, hz1⟩, hFr⟩, st⟩ | ⟨q, st₀, t, T', L, E, ce, h0, X', hL, e1, e2, ⟨k, hpk, hE, hz1, hk1⟩, hce, hcv, hcl, st⟩
  · cases hv
    obtain ⟨k1, k2, k3⟩ := vx_keep (A1 := va_A wc H.size) h0 e1 hS (fun q _ h => hF q h) hF hL hFr
    obtain ⟨p0, eu⟩ := hp u hpo
    subst eu
    rw [← e1] at hP1
    obtain ⟨hP2, hD2⟩ := va_join (wr := wr) (w1 := W1 u) hP hD isC isR hC hR hn hdis k2 hF hP1 hD1
    obtain ⟨t2, a1, b1⟩ := kk T'.heap (locs ++ L) p0 hP2 hD2 k3 T' rfl (zTight X' (by rw [e1, hz1, hz]))
    exact ⟨t2, st t2 a1, b1⟩
  · subst hE
    rw [Nat.zero_add, Nat.zero_add] at X'
    rw [h0] at hz1 hk1
    have hk2 : ∀ q : Nat, q < H.size → T'.heap[q]? = H[q]? := fun q hq => by rw [e1]; exact hk1 q hq (Nat.not_le.mpr hq)
    obtain ⟨t2, a1, b1⟩ := kx k ce q T'.heap (locs ++ L) hpk (by rw [e1]; exact hz1) hk2 ⟨Nat.le_trans hS.1 (by rw [e1]; exact hz1), fun q h1 h2 => by rw [hk2 q (Nat.lt_of_lt_of_le h1 hS.1)]; exact hS.2.1 q h1 h2, fun z hz => (List.mem_append.mp hz).elim (hS.2.2 z) (fun h => hF _ (hL z h))⟩ (by rw [e1]; exact hce) hcv hcl T' rfl X'
    exact ⟨t2, st.trans a1, b1⟩
end ZCALL4
