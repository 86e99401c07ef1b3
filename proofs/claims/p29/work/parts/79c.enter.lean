/-! the law's entry: what the claim gives of the start -/
set_option maxRecDepth 40000 in
theorem zen_K {s : State} {args : Array Value} (hts : ∀ w ∈ wsL_law, w.before args s = true) : ∃ (dC : Nat → ClassId) (dI : Nat → Nat → Nat) (cI cJ : ClassId), va_K (dC, dI) vwCl [(cI, .int), (cJ, .long)] s := by
  obtain ⟨c0, i0, h0⟩ := u_known (C := RX0) (T := TX0) (N := 5) (n := 5) hts (by decide +kernel) (hts _ (by decide +kernel))
  obtain ⟨c1, i1, h1⟩ := u_known (C := RX1) (T := TX1) (N := 5) (n := 5) hts (by decide +kernel) (hts _ (by decide +kernel))
  obtain ⟨c2, i2, h2⟩ := u_known (C := RX2) (T := TX2) (N := 2) (n := 2) hts (by decide +kernel) (hts _ (by decide +kernel))
  obtain ⟨c3, i3, h3⟩ := u_known (C := RX3) (T := TX3) (N := 3) (n := 3) hts (by decide +kernel) (hts _ (by decide +kernel))
  obtain ⟨c4, i4, h4⟩ := u_known (C := RX4) (T := TX4) (N := 2) (n := 2) hts (by decide +kernel) (hts _ (by decide +kernel))
  obtain ⟨c5, i5, h5⟩ := u_known (C := RX5) (T := TX5) (N := 4) (n := 4) hts (by decide +kernel) (hts _ (by decide +kernel))
  obtain ⟨c6, i6, h6⟩ := u_known (C := RX6) (T := TX6) (N := 4) (n := 4) hts (by decide +kernel) (hts _ (by decide +kernel))
  obtain ⟨c7, i7, h7⟩ := u_known (C := RX7) (T := TX7) (N := 16) (n := 16) hts (by decide +kernel) (hts _ (by decide +kernel))
  obtain ⟨cI, kI, oI, hI1, hI2, hI3⟩ := Cond.arrayClass_spec (hts (.arrayClass .int) (by decide +kernel))
  obtain ⟨cJ, kJ, oJ, hJ1, hJ2, hJ3⟩ := Cond.arrayClass_spec (hts (.arrayClass .long) (by decide +kernel))
  refine ⟨fun k => match k with | 0 => c0 | 1 => c1 | 2 => c2 | 3 => c3 | 4 => c4 | 5 => c5 | 6 => c6 | _ => c7, fun k => match k with | 0 => i0 | 1 => i1 | 2 => i2 | 3 => i3 | 4 => i4 | 5 => i5 | 6 => i6 | _ => i7, cI, cJ, fun c q hq => ?_, fun k q hq => ?_⟩
  · match c with
    | 0 => cases hq; exact h0
    | 1 => cases hq; exact h1
    | 2 => cases hq; exact h2
    | 3 => cases hq; exact h3
    | 4 => cases hq; exact h4
    | 5 => cases hq; exact h5
    | 6 => cases hq; exact h6
    | 7 => cases hq; exact h7
    | n + 8 => exact absurd hq (by simp)
  · match k with
    | 0 => cases hq; exact ⟨fun n z => ⟨fun k h => (by cases h), kI, hI2, oI, hI3⟩, hI1⟩
    | 1 => cases hq; exact ⟨fun n z => ⟨fun k h => (by cases h), kJ, hJ2, oJ, hJ3⟩, hJ1⟩
    | n + 2 => exact absurd hq (by simp)
theorem zen_eq {args : Array Value} {s : State} {a b : Term} {v : Value} (h : (Cond.eq a b).before args s = true) (hb : b.eval args s none [] s = some v) : a.eval args s none [] s = some v := by
  simp only [Cond.before, Cond.holds, Cond.value] at h
  rw [hb] at h
  cases ha : a.eval args s none [] s with
  | none => rw [ha] at h; simp at h
  | some x => rw [ha] at h; cases x <;> cases v <;> simp_all
set_option maxRecDepth 100000 in
theorem zen_1 : ∀ q ∈ zNw, q ∈ lw_tbl ∧ q.onTables = true := by decide +kernel
set_option maxRecDepth 100000 in
theorem zen_2 : ∀ q ∈ zSt, Cond.stringRef RX7 q.1 q.2 ∈ lw_tbl := by decide +kernel
set_option maxRecDepth 100000 in
theorem zen_3 : ∀ q ∈ zNc, Cond.not (.castable q.1 q.2) ∈ flatC (Jvm.Cond.and given_1 narrow_1) := by decide +kernel
set_option maxRecDepth 100000 in
theorem zen_4 : ∀ k ∈ [1, 2, 3], Cond.castable (zXn k) (zXn k) ∈ lw_tbl := by decide +kernel
set_option maxRecDepth 100000 in
theorem zen_5 : ∀ q ∈ zDe, Cond.declares q ∈ lw_tbl := by decide +kernel
theorem zen_E {s : State} {b : Nat} (hts : ∀ w ∈ lw_tbl, w.before #[Value.ref b] s = true) (hgv : (Jvm.Cond.and given_1 narrow_1).before #[Value.ref b] s = true) (hcur : ∃ cur, s.vm.findClass RX7 = some cur) : zE s := by
  obtain ⟨cur, hcur⟩ := hcur
  have hq := flat_of_before _ hgv
  refine ⟨fun q h => va_Nw.of (zen_1 q h).2 (hts _ (zen_1 q h).1), fun q h => ?_, fun q h => va_Nc.of (hq _ (zen_3 q h)), fun k => ?_, fun q h => va_Nw.of rfl (hts _ (zen_5 q h))⟩
  · obtain ⟨_, _, _, a, _, _, _, _, _, ha⟩ := Cond.stringRef_spec hcur (hts _ (zen_2 q h))
    exact ⟨a, vk_R.of (hts _ (zen_2 q h)) ha⟩
  · match k with
    | 0 => exact va_Nw.of rfl (hts _ (zen_4 3 (by decide)))
    | 1 => exact va_Nw.of rfl (hts _ (zen_4 1 (by decide)))
    | 2 => exact va_Nw.of rfl (hts _ (zen_4 2 (by decide)))
    | n + 3 => exact va_Nw.of rfl (hts _ (zen_4 3 (by decide)))
set_option maxRecDepth 100000 in
theorem zen_G {s : State} {b : Nat} {A : Nat → Prop} (hts : ∀ w ∈ lw_tbl, w.before #[Value.ref b] s = true) (hgv : (Jvm.Cond.and given_1 narrow_1).before #[Value.ref b] s = true) (hcur : ∃ cur, s.vm.findClass RX7 = some cur) (hA : ∀ a : Nat, a < s.heap.size → ¬ A a) : zG A s := by
  have hq := flat_of_before _ hgv
  refine ⟨zen_E hts hgv hcur, ⟨vx_Zqof (hts _ (by decide +kernel)) (hts _ (by decide +kernel)) (hq _ (by decide +kernel)) hA, vx_Zqof (hts _ (by decide +kernel)) (hts _ (by decide +kernel)) (hq _ (by decide +kernel)) hA⟩, ?_⟩
  have hl : (Term.length (.static RX6 "KNOWN_TO" "[J")).eval #[Value.ref b] s none [] s = some (.int (Int32.ofNat 6)) := zen_eq (hq (.eq (.length (.static RX6 "KNOWN_TO" "[J")) (.int 6)) (by decide +kernel)) rfl
  have he : ∀ j : Nat, j < 6 → (Term.elem (.static RX6 "KNOWN_TO" "[J") (.int (Int32.ofNat j))).eval #[Value.ref b] s none [] s = some (.long (zKT j)) := by
    intro j hj
    match j with
    | 0 => exact zen_eq (hq (.eq (.elem (.static RX6 "KNOWN_TO" "[J") (.int 0)) (.long (zKT 0))) (by decide +kernel)) rfl
    | 1 => exact zen_eq (hq (.eq (.elem (.static RX6 "KNOWN_TO" "[J") (.int 1)) (.long (zKT 1))) (by decide +kernel)) rfl
    | 2 => exact zen_eq (hq (.eq (.elem (.static RX6 "KNOWN_TO" "[J") (.int 2)) (.long (zKT 2))) (by decide +kernel)) rfl
    | 3 => exact zen_eq (hq (.eq (.elem (.static RX6 "KNOWN_TO" "[J") (.int 3)) (.long (zKT 3))) (by decide +kernel)) rfl
    | 4 => exact zen_eq (hq (.eq (.elem (.static RX6 "KNOWN_TO" "[J") (.int 4)) (.long (zKT 4))) (by decide +kernel)) rfl
    | 5 => exact zen_eq (hq (.eq (.elem (.static RX6 "KNOWN_TO" "[J") (.int 5)) (.long (zKT 5))) (by decide +kernel)) rfl
    | n + 6 => omega
  obtain ⟨t, ht, hT⟩ := va_Tof (tm := .static RX6 "KNOWN_TO" "[J") (ty := .long) (N := 6) (f := fun j => .long (zKT j)) (by decide) (hq _ (by decide +kernel)) hl he hA
  exact ⟨t, va_Zof (hts _ (by decide +kernel)) (hts _ (by decide +kernel)) ht hA, hT⟩
