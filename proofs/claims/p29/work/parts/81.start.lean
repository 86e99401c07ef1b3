/-! the start: what the class has kept, what the law has kept -/
theorem zi_f (n : Nat) : oJ7_fill_53178_f (fun _ => (0 : Int32)) 4 (-1 : Int32) (n + 4) = 0 := by
  simp [oJ7_fill_53178_f, lJ7_fill_53178_5_f, upd]
theorem zi_f4 : ∀ j, j < 4 → oJ7_fill_53178_f (fun _ => (0 : Int32)) 4 (-1 : Int32) j = -1 := by decide +kernel
theorem zi_ho : yHo (oJ7_fill_53178_f (fun _ => (0 : Int32)) 4 (-1 : Int32)) := by
  refine ⟨fun j hj => Or.inl (zi_f4 j hj), fun j hj => ?_⟩
  obtain ⟨n, rfl⟩ : ∃ n, j = n + 4 := ⟨j - 4, by omega⟩
  exact zi_f n
theorem zi_v {n : Nat} (h : 0 < n) : vp_in 0 n := vp_in_iff.mpr ⟨by decide, by have e : (0 : Int32).toInt = 0 := rfl; omega⟩
theorem zi_kn : yKn (fun _ => (0 : Int32)) := ⟨fun _ _ => zi_v (by decide), fun _ _ => rfl⟩
theorem zi_jk : zJk (fun _ => (0 : Int32)) (fun _ => (0 : Int32)) := fun m s _ _ => Or.inr ⟨rfl, yi_0 m⟩
theorem zi_jh : zJh (fun _ => (0 : Int32)) (oJ7_fill_53178_f (fun _ => (0 : Int32)) 4 (-1 : Int32)) := fun s hs => by
  rw [zi_f4 s hs]
  show (0 : Int32) = -1 + 1
  decide
theorem zi_p : ∀ j : Nat, j < 6 → z0_vq j = oJ7_fill_53178_f (fun _ => (0 : Int32)) 6 (1 : Int32) j := by decide +kernel
set_option maxRecDepth 100000 in
theorem zi_R : zRc 0 zh0.ni zh0.li zh0.mi zh0.mv zh0.nx zh0.al zh0.nc zh0.nl zh0.on zh0.il zh0.ba zh0.size zh0.ki zh0.fi zh0.se zh0.th zh0.kT zh0.hT zh0.kn zh0.ho zh0.kb0 zh0.hb0 zh0.gs zh0.le zh0.wi zh0.pr zh0.tp zh0.pt zh0.fr zh0.fb z0_vk z0_vh z0_vc z0_ve z0_vq z0_vg := by
  have e0 : (0 : Int32).toInt = 0 := rfl
  refine ⟨⟨?_, ?_, ?_, ?_, zi_kn, zi_kn, zi_ho, zi_ho⟩, ⟨zi_jk, ?_⟩, ⟨zi_jh, ?_⟩, ?_, ⟨?_, ?_⟩, zi_p, ?_⟩
  · exact ⟨by decide, by decide, fun _ _ => zi_v (by decide), fun _ _ => zi_v (by decide), fun _ _ => zi_v (by decide), fun _ _ => zi_v (by decide), fun j hj => absurd hj (by show ¬ (j : Int) < (0 : Int32).toInt; omega)⟩
  · exact ⟨by decide, by decide, fun _ _ => zi_v (by decide), fun _ _ => Or.inr (zi_v (by decide))⟩
  · exact fun q => absurd q (by decide)
  · exact ⟨zi_v (by decide), zi_v (by decide), by decide⟩
  · rw [if_pos (show zh0.ni = 0 from rfl)]
    exact zi_jk
  · rw [if_pos (show zh0.ni = 0 from rfl)]
    exact zi_jh
  · intro j _
    show (0 : Int32) = zcd 0 0 0 0
    decide
  · intro j hj
    exact absurd hj (by show ¬ (j : Int) < (0 : Int32).toInt; omega)
  · intro j _
    exact ⟨rfl, show 0 ≤ (0 : Int32).toInt by decide, show (0 : Int32).toInt ≤ ((0 : Nat) : Int) by decide⟩
  · exact ⟨by decide +kernel, by decide +kernel, by decide +kernel, by decide +kernel, by decide +kernel, by decide +kernel, by decide +kernel, by decide +kernel, by decide +kernel, by decide +kernel, by decide +kernel, by decide +kernel, by decide +kernel⟩
