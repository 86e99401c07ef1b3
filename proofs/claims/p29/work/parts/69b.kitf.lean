/-! a new array of doubles -/
section ZNEWD
variable {p : Program} {l : Launch} {e : Env} {R : Room} {s : State} {m : MethodId} {args : Array Value} {below : List Frame} {meth : Method} {c : Code} {H H0 : Heap} {locs : List Loc} {cells slots : Nat} {Q : State → Prop}
variable {D : va_G} {cl : List vw_C} {ws : va_W} {A : Nat → Prop} {pc : Nat} {ls : Array Slot} {rest : List Value} {cc : ByteArray} {cI cJ cD : ClassId} {ty2 : List (ClassId × FieldType)}
theorem zNewD {N : Nat} {n : Int32} (hexec : p.tables.exec = Jvm.exec) (hb : c.code = cc) (harr : (Cond.arrayClass .double).before args s = true) (hK : va_K D cl ((cI, .int) :: (cJ, .long) :: (cD, .double) :: ty2) s) (hP : va_P D cl ws H) (hD : va_D A ws) (hS : va_S A H0 H locs) (hA : ∀ q, H0.size ≤ q → A q)
    (hn : decide (n < 0) = false) (hN : n.toNatClampNeg = N) (hbytes : N * componentBytes .double ≤ 536870912) (hcells : cells + 1 ≤ R.cells) (hslots : slots + N ≤ R.slots) (hdg : decode cc pc = .ok (.newarray .double, 2))
    (kk : ∀ (q : Nat) (H1 : Heap), va_P D cl (ws ++ [(q, .inl (cD, N, .inr (.inr (.inr (.inl (fun _ => FP.dconst0))))))]) H1 → va_D A (ws ++ [(q, .inl (cD, N, .inr (.inr (.inr (.inl (fun _ => FP.dconst0))))))]) → va_S A H0 H1 locs → W p l e R s m args below meth c H1 locs (cells + 1) (slots + N) Q (F0 m (pc + 2) ls (.ref q :: rest))) : W p l e R s m args below meth c H locs cells slots Q (F0 m pc ls (.int n :: rest)) := by
  refine va_newa (atype := .double) (ty := .double) (a0 := (N, .inr (.inr (.inr (.inl (fun _ => FP.dconst0)))))) hexec hb harr rfl hK hP hD hS hA (fun _ => rfl) (of_decide_eq_false hn) hN hbytes hcells hslots hdg (fun q cA H1 hK1 hP1 hD1 hS1 => ?_)
  have h1 : s.vm.findClass ("[" ++ FieldType.double.toString) = some cD := (hK.2 2 (cD, .double) rfl).2
  have h2 : s.vm.findClass ("[" ++ FieldType.double.toString) = some cA := (hK1.2 (3 + ty2.length) (cA, .double) (by simp [List.getElem?_append, Nat.add_comm 3 ty2.length])).2
  have h3 : cA = cD := Option.some.inj (h2.symm.trans h1)
  subst h3
  exact kk q H1 hP1 hD1 hS1
end ZNEWD
