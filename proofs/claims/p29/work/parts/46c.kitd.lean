/-! a call that may throw and answers a double -/
section ZCALLD
variable {p : Program} {l : Launch} {e : Env} {R : Room} {s : State} {m : MethodId} {args : Array Value} {below : List Frame} {meth : Method} {c : Code} {H : Heap} {locs : List Loc} {cells slots : Nat} {Q : State → Prop}
variable {D : va_G} {tys : List (ClassId × FieldType)} {ws wc wr : va_W} {A : Nat → Prop} {pc : Nat} {ls : Array Slot} {rest st0 : List Value} {a : Array Value} {mc ms : Nat}
theorem zxSd {post : UInt64 → Prop} {px : Nat → Prop} {free : Addr → Prop} (hr : vx_Run p l e R s m args below meth c H locs 0 0 mc ms (F0 m pc ls st0) rest (vp_Sd post a) (zX px H.size) free) (hf : ∀ q, ¬ free q) (hS : va_S A s.heap H locs) (hA : ∀ q, s.heap.size ≤ q → A q)
    (kx : ∀ (k : Nat) (ce : Cell) (q9 : Addr) (H1 : Heap) (locs1 : List Loc), px k → H.size ≤ H1.size → (∀ q : Nat, q < H.size → H1[q]? = H[q]?) → va_S A s.heap H1 locs1 → (locs = [] → locs1 = []) → H1[q9]? = some ce → ce.vm = .none → s.vm.findClass (zXn k) = some ce.cls → vx_W p l e R s m args below meth c H1 locs1 mc ms Q (F0 m pc ls rest) q9)
    (kk : ∀ r : UInt64, post r → W p l e R s m args below meth c H locs 0 0 Q (F0 m (pc + 3) ls (.double r :: rest))) : W p l e R s m args below meth c H locs 0 0 Q (F0 m pc ls st0) := by
  intro T hT X
  have hz : H.size = s.heap.size := by
    have h1 := X.heapSize
    have h2 : s.heap.size ≤ T.heap.size := X.same.2.1
    rw [← hT]; omega
  rcases hr T hT X with ⟨v, st₀, t, T', L, h0, X', hL, e1, e2, ⟨r, hv, hp, hh⟩, st⟩ | ⟨q, st₀, t, T', L, E, ce, h0, X', hL, e1, e2, ⟨k, hp, hE, hz1, hk1⟩, hce, hcv, hcl, st⟩
  · cases hv
    have hLn : L = [] := List.eq_nil_iff_forall_not_mem.mpr fun q hq => hf _ (hL q hq)
    subst hLn
    rw [List.append_nil] at X'
    have hT' : T'.heap = H := by rw [e1, hh, h0]
    obtain ⟨t2, a1, b1⟩ := kk r hp T' hT' (zTight X' (by rw [hT', hz]))
    exact ⟨t2, st t2 a1, b1⟩
  · have hLn : L = [] := List.eq_nil_iff_forall_not_mem.mpr fun q hq => hf _ (hL q hq)
    subst hLn
    rw [List.append_nil] at X'
    rw [Nat.zero_add, Nat.zero_add] at X'
    subst hE
    rw [h0] at hz1 hk1
    have hk2 : ∀ q : Nat, q < H.size → T'.heap[q]? = H[q]? := fun q hq => by rw [e1]; exact hk1 q hq (Nat.not_le.mpr hq)
    obtain ⟨t2, a1, b1⟩ := kx k ce q T'.heap locs hp (by rw [e1]; exact hz1) hk2 ⟨Nat.le_trans hS.1 (by rw [e1]; exact hz1), fun q h1 h2 => by rw [hk2 q (Nat.lt_of_lt_of_le h1 hS.1)]; exact hS.2.1 q h1 h2, hS.2.2⟩ (fun h => h) (by rw [e1]; exact hce) hcv hcl T' rfl X'
    exact ⟨t2, st.trans a1, b1⟩
theorem zxRd {px : Nat → Prop} {P0 : Prop} {r0 : UInt64} (hr : vx_Run p l e R s m args below meth c H locs 0 0 mc ms (F0 m pc ls st0) rest (vp_Sd (fun r => P0 ∧ r = r0) a) (zX px H.size) (fun _ => False)) (hP : va_P D vwCl ws H) (hS : va_S A s.heap H locs) (hA : ∀ q, s.heap.size ≤ q → A q)
    (kx : ∀ (k : Nat) (ce : Cell) (q9 : Addr) (H1 : Heap) (locs1 : List Loc), px k → va_P D vwCl ws H1 → va_S A s.heap H1 locs1 → H1[q9]? = some ce → ce.vm = .none → s.vm.findClass (zXn k) = some ce.cls → vx_W p l e R s m args below meth c H1 locs1 mc ms Q (F0 m pc ls rest) q9)
    (kk : P0 → W p l e R s m args below meth c H locs 0 0 Q (F0 m (pc + 3) ls (.double r0 :: rest))) : W p l e R s m args below meth c H locs 0 0 Q (F0 m pc ls st0) :=
  zxSd (px := px) hr (fun _ h => h) hS hA
    (fun k ce q9 H1 locs1 hpx hz1 hk1 hS1 _ hce hcv hcl => kx k ce q9 H1 locs1 hpx (hP.kept (fun k x hx => hk1 x.1 ((hP k x hx).lt))) hS1 hce hcv hcl)
    (fun r h => by rw [h.2]; exact kk h.1)
end ZCALLD
