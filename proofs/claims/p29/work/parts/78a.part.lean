/-! the law: its numbers out of the script, its loop -/
def rL_part (L : Nat) (xs : Nat → Int32) (k n : Int32) : Int32 := zRem ((if Int32.ofNat L ≤ k then (((1013 : Int32) * k) + (((883 : Int32) * k) * k)) else xs k.toNatClampNeg) &&& (2147483647 : Int32)) n
theorem kL_part_c : Cond.constant RL 7 (2147483647) ∈ wsL_part := by decide +kernel
theorem c_L_part (l : Launch) (b L : Nat) (xs : Nat → Int32) (k n : Int32) (hk : 0 ≤ k.toInt) (hL : L ≤ 260) (hn : ¬ n = 0) : Met l yL_part wsL_part ({ frames := 0, cells := 0, slots := 0, locals := 0 }) (va_Pc [.ref b, .int k, .int n] (fun U => va_X b L xs U U.heap ∧ b < U.heap.size)) (vp_Si (fun r => r = rL_part L xs k n)) 0 0 (fun _ => False) := by
  refine Met.ofW (cc := cL_part) (maxL := 4) (ret := (some .int)) (by decide) rfl ?_
  intro p e s m args below meth c s₁ B hml hv
  obtain ⟨rfl, hX, hbl⟩ := hv
  have hx := B.exec
  have hb := B.bytes
  have hr := B.returns
  have hts := atoms_spec (ws := wsL_part) B.pre
  have hown : s.vm.findClass RL = some m.cls := findClass_of_methodNamed B.named
  have hS : va_S (fun q : Nat => s.heap.size ≤ q) s.heap s.heap [] := va_S.rf
  have hbA : ¬ (fun q : Nat => s.heap.size ≤ q) b := Nat.not_le.mpr hbl
  have hl := lv_entry ([.ref b, .int k, .int n]) (n := 4) (Nat.le_of_ble_eq_true rfl)
  rw [lg_entry_eq]
  generalize (lg_sl ([.ref b, .int k, .int n]) ++ List.replicate (4 - (lg_sl ([.ref b, .int k, .int n])).length) Slot.unset).toArray = ls at hl ⊢
  have hl : lv_has ls 4 [(0, .ref b), (1, .int k), (2, .int n)] := hl
  refine lv_iload_n hx hb dL_part_0 rfl (lv_at hl 1 rfl) ?_
  refine lv_aload_n hx hb dL_part_1 rfl (lv_at hl 0 rfl) ?_
  refine va_slen hx hb hX hbl hbA hS dL_part_2 ?_
  refine lv_icmp_ge (tgt := 12) hx hb dL_part_3 (by decide) (fun c_1 => ?_) (fun c_1 => ?_)
  · refine lv_sipush (v := 1013) hx hb dL_part_12 (by decide) ?_
    refine lv_iload_n hx hb dL_part_15 rfl (lv_at hl 1 rfl) ?_
    refine lv_imul hx hb dL_part_16 ?_
    refine lv_sipush (v := 883) hx hb dL_part_17 (by decide) ?_
    refine lv_iload_n hx hb dL_part_20 rfl (lv_at hl 1 rfl) ?_
    refine lv_imul hx hb dL_part_21 ?_
    refine lv_iload_n hx hb dL_part_22 rfl (lv_at hl 1 rfl) ?_
    refine lv_imul hx hb dL_part_23 ?_
    refine lv_iadd hx hb dL_part_24 ?_
    refine lv_istore_n (lv' := [(3, .int ((((1013 : Int32) * k) + (((883 : Int32) * k) * k)))), (0, .ref b), (1, .int k), (2, .int n)]) hx hb dL_part_25 rfl hl (by decide) rfl (fun ls hl => ?_)
    refine lv_iload_n hx hb dL_part_26 rfl (lv_at hl 0 rfl) ?_
    refine lv_ldc (v := 2147483647) hx hb hown (hts _ kL_part_c) dL_part_27 ?_
    refine lv_iand hx hb dL_part_29 ?_
    refine lv_iload_n hx hb dL_part_30 rfl (lv_at hl 3 rfl) ?_
    refine zvRem hx hb dL_part_31 hn ?_
    exact W.iret (v := _) hx hb hr (fun t ht hW => ⟨_, rfl, (by unfold rL_part; rw [if_pos c_1]), ht⟩) (fun q hq => absurd hq List.not_mem_nil) dL_part_32
  · refine lv_aload_n hx hb dL_part_6 rfl (lv_at hl 0 rfl) ?_
    refine lv_iload_n hx hb dL_part_7 rfl (lv_at hl 1 rfl) ?_
    refine va_sld hx hb hX hbl hbA hS (i := k) (zin_c hk c_1 (by rw [Int32.toInt_ofNat_of_lt (by omega)]; exact Int.le_refl _)) dL_part_8 ?_
    refine lv_goto (tgt := 25) hx hb dL_part_9 (by decide) ?_
    refine lv_istore_n (lv' := [(3, .int (xs k.toNatClampNeg)), (0, .ref b), (1, .int k), (2, .int n)]) hx hb dL_part_25 rfl hl (by decide) rfl (fun ls hl => ?_)
    refine lv_iload_n hx hb dL_part_26 rfl (lv_at hl 0 rfl) ?_
    refine lv_ldc (v := 2147483647) hx hb hown (hts _ kL_part_c) dL_part_27 ?_
    refine lv_iand hx hb dL_part_29 ?_
    refine lv_iload_n hx hb dL_part_30 rfl (lv_at hl 3 rfl) ?_
    refine zvRem hx hb dL_part_31 hn ?_
    exact W.iret (v := _) hx hb hr (fun t ht hW => ⟨_, rfl, (by unfold rL_part; rw [if_neg c_1]), ht⟩) (fun q hq => absurd hq List.not_mem_nil) dL_part_32
theorem zpX {s : State} {H : Heap} {A : Nat → Prop} {locs : List Loc} {b L : Nat} {xs : Nat → Int32} {As : List Value} (hX : va_X b L xs s s.heap) (hbl : b < s.heap.size) (hbA : ¬ A b) (hS : va_S A s.heap H locs) : PreS s H (va_Pc As (fun U => va_X b L xs U U.heap ∧ b < U.heap.size)) As :=
  ⟨fun a U g mk h => ⟨h.1, va_X.moved (u := U) (U := U.calling g mk a) (Vm.Alike.refl U.vm) h.2.1, h.2.2⟩, fun {U} hU hW => ⟨rfl, by
    rw [hU]
    exact va_X.moved hW.alike (hX.kept (hS.2.1 b hbl hbA)), by
    rw [hU]
    exact Nat.lt_of_lt_of_le hbl hS.1⟩⟩
theorem zand31 (v : Int32) : 0 ≤ (v &&& (2147483647 : Int32)).toInt := by
  have h : (v &&& (2147483647 : Int32)).toBitVec.msb = false := by
    rw [Int32.toBitVec_and, BitVec.msb_and, show (2147483647 : Int32).toBitVec.msb = false by decide, Bool.and_false]
  exact BitVec.toInt_nonneg_of_msb_false h
theorem zpt (L : Nat) (xs : Nat → Int32) (k n : Int32) (c : Nat) (hn : n.toInt = c) (hc : 0 < c) : 0 ≤ (rL_part L xs k n).toInt ∧ (rL_part L xs k n).toInt < c := by
  unfold rL_part
  generalize (if Int32.ofNat L ≤ k then (((1013 : Int32) * k) + (((883 : Int32) * k) * k)) else xs k.toNatClampNeg) = v
  have h0 : 0 ≤ (v &&& (2147483647 : Int32)).toInt := zand31 v
  have e := zrK (a := v &&& (2147483647 : Int32)) (n := (c : Int)) hn h0 (by omega)
  have h1 := Int.emod_nonneg (v &&& (2147483647 : Int32)).toInt (show (c : Int) ≠ 0 by omega)
  have h2 := Int.emod_lt_of_pos (v &&& (2147483647 : Int32)).toInt (show (0 : Int) < c by omega)
  omega
theorem zR_of (N : Nat) (ni : Int32) (li : Int32) (mi : Int32) (mv : Int32) (nx : Int32) (al : Int32) (nc : Int32) (nl : Int32) (on : Int32) (il : Int32) (ba : Int32) (size : Int32) (ki : Nat → Int32) (fi : Nat → Int32) (se : Nat → Int32) (th : Nat → Int32) (kT : Nat → Int32) (hT : Nat → Int32) (kn : Nat → Int32) (ho : Nat → Int32) (kb0 : Nat → Int32) (hb0 : Nat → Int32) (gs : Int32) (le : Nat → Int32) (wi : Nat → Int32) (pr : Nat → Int32) (tp : Nat → Int32) (pt : Nat → Int32) (fr : Nat → Int64) (fb : Nat → Int64) (vk vh vc ve vq vg : Nat → Int32) (h : zRc N ni li mi mv nx al nc nl on il ba size ki fi se th kT hT kn ho kb0 hb0 gs le wi pr tp pt fr fb vk vh vc ve vq vg) : zRc N (ZH.of ni li mi mv nx al nc nl on il ba size ki fi se th kT hT kn ho kb0 hb0 gs le wi pr tp pt fr fb).ni (ZH.of ni li mi mv nx al nc nl on il ba size ki fi se th kT hT kn ho kb0 hb0 gs le wi pr tp pt fr fb).li (ZH.of ni li mi mv nx al nc nl on il ba size ki fi se th kT hT kn ho kb0 hb0 gs le wi pr tp pt fr fb).mi (ZH.of ni li mi mv nx al nc nl on il ba size ki fi se th kT hT kn ho kb0 hb0 gs le wi pr tp pt fr fb).mv (ZH.of ni li mi mv nx al nc nl on il ba size ki fi se th kT hT kn ho kb0 hb0 gs le wi pr tp pt fr fb).nx (ZH.of ni li mi mv nx al nc nl on il ba size ki fi se th kT hT kn ho kb0 hb0 gs le wi pr tp pt fr fb).al (ZH.of ni li mi mv nx al nc nl on il ba size ki fi se th kT hT kn ho kb0 hb0 gs le wi pr tp pt fr fb).nc (ZH.of ni li mi mv nx al nc nl on il ba size ki fi se th kT hT kn ho kb0 hb0 gs le wi pr tp pt fr fb).nl (ZH.of ni li mi mv nx al nc nl on il ba size ki fi se th kT hT kn ho kb0 hb0 gs le wi pr tp pt fr fb).on (ZH.of ni li mi mv nx al nc nl on il ba size ki fi se th kT hT kn ho kb0 hb0 gs le wi pr tp pt fr fb).il (ZH.of ni li mi mv nx al nc nl on il ba size ki fi se th kT hT kn ho kb0 hb0 gs le wi pr tp pt fr fb).ba (ZH.of ni li mi mv nx al nc nl on il ba size ki fi se th kT hT kn ho kb0 hb0 gs le wi pr tp pt fr fb).size (ZH.of ni li mi mv nx al nc nl on il ba size ki fi se th kT hT kn ho kb0 hb0 gs le wi pr tp pt fr fb).ki (ZH.of ni li mi mv nx al nc nl on il ba size ki fi se th kT hT kn ho kb0 hb0 gs le wi pr tp pt fr fb).fi (ZH.of ni li mi mv nx al nc nl on il ba size ki fi se th kT hT kn ho kb0 hb0 gs le wi pr tp pt fr fb).se (ZH.of ni li mi mv nx al nc nl on il ba size ki fi se th kT hT kn ho kb0 hb0 gs le wi pr tp pt fr fb).th (ZH.of ni li mi mv nx al nc nl on il ba size ki fi se th kT hT kn ho kb0 hb0 gs le wi pr tp pt fr fb).kT (ZH.of ni li mi mv nx al nc nl on il ba size ki fi se th kT hT kn ho kb0 hb0 gs le wi pr tp pt fr fb).hT (ZH.of ni li mi mv nx al nc nl on il ba size ki fi se th kT hT kn ho kb0 hb0 gs le wi pr tp pt fr fb).kn (ZH.of ni li mi mv nx al nc nl on il ba size ki fi se th kT hT kn ho kb0 hb0 gs le wi pr tp pt fr fb).ho (ZH.of ni li mi mv nx al nc nl on il ba size ki fi se th kT hT kn ho kb0 hb0 gs le wi pr tp pt fr fb).kb0 (ZH.of ni li mi mv nx al nc nl on il ba size ki fi se th kT hT kn ho kb0 hb0 gs le wi pr tp pt fr fb).hb0 (ZH.of ni li mi mv nx al nc nl on il ba size ki fi se th kT hT kn ho kb0 hb0 gs le wi pr tp pt fr fb).gs (ZH.of ni li mi mv nx al nc nl on il ba size ki fi se th kT hT kn ho kb0 hb0 gs le wi pr tp pt fr fb).le (ZH.of ni li mi mv nx al nc nl on il ba size ki fi se th kT hT kn ho kb0 hb0 gs le wi pr tp pt fr fb).wi (ZH.of ni li mi mv nx al nc nl on il ba size ki fi se th kT hT kn ho kb0 hb0 gs le wi pr tp pt fr fb).pr (ZH.of ni li mi mv nx al nc nl on il ba size ki fi se th kT hT kn ho kb0 hb0 gs le wi pr tp pt fr fb).tp (ZH.of ni li mi mv nx al nc nl on il ba size ki fi se th kT hT kn ho kb0 hb0 gs le wi pr tp pt fr fb).pt (ZH.of ni li mi mv nx al nc nl on il ba size ki fi se th kT hT kn ho kb0 hb0 gs le wi pr tp pt fr fb).fr (ZH.of ni li mi mv nx al nc nl on il ba size ki fi se th kT hT kn ho kb0 hb0 gs le wi pr tp pt fr fb).fb vk vh vc ve vq vg := h
theorem zR_le {N M : Nat} {ni : Int32} {li : Int32} {mi : Int32} {mv : Int32} {nx : Int32} {al : Int32} {nc : Int32} {nl : Int32} {on : Int32} {il : Int32} {ba : Int32} {size : Int32} {ki : Nat → Int32} {fi : Nat → Int32} {se : Nat → Int32} {th : Nat → Int32} {kT : Nat → Int32} {hT : Nat → Int32} {kn : Nat → Int32} {ho : Nat → Int32} {kb0 : Nat → Int32} {hb0 : Nat → Int32} {gs : Int32} {le : Nat → Int32} {wi : Nat → Int32} {pr : Nat → Int32} {tp : Nat → Int32} {pt : Nat → Int32} {fr : Nat → Int64} {fb : Nat → Int64} {vk vh vc ve vq vg : Nat → Int32} (h : zRc N ni li mi mv nx al nc nl on il ba size ki fi se th kT hT kn ho kb0 hb0 gs le wi pr tp pt fr fb vk vh vc ve vq vg) (hM : N ≤ M) : zRc M ni li mi mv nx al nc nl on il ba size ki fi se th kT hT kn ho kb0 hb0 gs le wi pr tp pt fr fb vk vh vc ve vq vg := by
  obtain ⟨⟨iC, iG, iN, iS, iK0, iK, iH0, iH⟩, ⟨kA, kB⟩, ⟨hA, hB⟩, hc, ⟨hE, hTp⟩, hp, hg⟩ := h
  exact ⟨⟨iC, iG, iN, iS, iK0, iK, iH0, iH⟩, ⟨kA, kB⟩, ⟨hA, hB⟩, hc, ⟨hE, zJt_le hTp hM⟩, hp, hg⟩
theorem zg_hsz0 {N : Nat} {ni : Int32} {li : Int32} {mi : Int32} {mv : Int32} {nx : Int32} {al : Int32} {nc : Int32} {nl : Int32} {on : Int32} {il : Int32} {ba : Int32} {size : Int32} {ki : Nat → Int32} {fi : Nat → Int32} {se : Nat → Int32} {th : Nat → Int32} {kT : Nat → Int32} {hT : Nat → Int32} {kn : Nat → Int32} {ho : Nat → Int32} {kb0 : Nat → Int32} {hb0 : Nat → Int32} {gs : Int32} {le : Nat → Int32} {wi : Nat → Int32} {pr : Nat → Int32} {tp : Nat → Int32} {pt : Nat → Int32} {fr : Nat → Int64} {fb : Nat → Int64} {vk vh vc ve vq vg : Nat → Int32} (h : zRc N ni li mi mv nx al nc nl on il ba size ki fi se th kT hT kn ho kb0 hb0 gs le wi pr tp pt fr fb vk vh vc ve vq vg) : 0 ≤ size.toInt := h.1.1.1
theorem zg_hsz {N : Nat} {ni : Int32} {li : Int32} {mi : Int32} {mv : Int32} {nx : Int32} {al : Int32} {nc : Int32} {nl : Int32} {on : Int32} {il : Int32} {ba : Int32} {size : Int32} {ki : Nat → Int32} {fi : Nat → Int32} {se : Nat → Int32} {th : Nat → Int32} {kT : Nat → Int32} {hT : Nat → Int32} {kn : Nat → Int32} {ho : Nat → Int32} {kb0 : Nat → Int32} {hb0 : Nat → Int32} {gs : Int32} {le : Nat → Int32} {wi : Nat → Int32} {pr : Nat → Int32} {tp : Nat → Int32} {pt : Nat → Int32} {fr : Nat → Int64} {fb : Nat → Int64} {vk vh vc ve vq vg : Nat → Int32} (h : zRc N ni li mi mv nx al nc nl on il ba size ki fi se th kT hT kn ho kb0 hb0 gs le wi pr tp pt fr fb vk vh vc ve vq vg) : size.toInt ≤ 12 := h.1.1.2.1
theorem zg_hTH {N : Nat} {ni : Int32} {li : Int32} {mi : Int32} {mv : Int32} {nx : Int32} {al : Int32} {nc : Int32} {nl : Int32} {on : Int32} {il : Int32} {ba : Int32} {size : Int32} {ki : Nat → Int32} {fi : Nat → Int32} {se : Nat → Int32} {th : Nat → Int32} {kT : Nat → Int32} {hT : Nat → Int32} {kn : Nat → Int32} {ho : Nat → Int32} {kb0 : Nat → Int32} {hb0 : Nat → Int32} {gs : Int32} {le : Nat → Int32} {wi : Nat → Int32} {pr : Nat → Int32} {tp : Nat → Int32} {pt : Nat → Int32} {fr : Nat → Int64} {fb : Nat → Int64} {vk vh vc ve vq vg : Nat → Int32} (h : zRc N ni li mi mv nx al nc nl on il ba size ki fi se th kT hT kn ho kb0 hb0 gs le wi pr tp pt fr fb vk vh vc ve vq vg) : ∀ j : Nat, j < 12 → vp_in (th j) 4 := h.1.1.2.2.2.2.2.1
theorem zg_hFI {N : Nat} {ni : Int32} {li : Int32} {mi : Int32} {mv : Int32} {nx : Int32} {al : Int32} {nc : Int32} {nl : Int32} {on : Int32} {il : Int32} {ba : Int32} {size : Int32} {ki : Nat → Int32} {fi : Nat → Int32} {se : Nat → Int32} {th : Nat → Int32} {kT : Nat → Int32} {hT : Nat → Int32} {kn : Nat → Int32} {ho : Nat → Int32} {kb0 : Nat → Int32} {hb0 : Nat → Int32} {gs : Int32} {le : Nat → Int32} {wi : Nat → Int32} {pr : Nat → Int32} {tp : Nat → Int32} {pt : Nat → Int32} {fr : Nat → Int64} {fb : Nat → Int64} {vk vh vc ve vq vg : Nat → Int32} (h : zRc N ni li mi mv nx al nc nl on il ba size ki fi se th kT hT kn ho kb0 hb0 gs le wi pr tp pt fr fb vk vh vc ve vq vg) : ∀ j : Nat, j < 12 → vp_in (fi j) 6 := h.1.1.2.2.2.1
theorem zg_hSE {N : Nat} {ni : Int32} {li : Int32} {mi : Int32} {mv : Int32} {nx : Int32} {al : Int32} {nc : Int32} {nl : Int32} {on : Int32} {il : Int32} {ba : Int32} {size : Int32} {ki : Nat → Int32} {fi : Nat → Int32} {se : Nat → Int32} {th : Nat → Int32} {kT : Nat → Int32} {hT : Nat → Int32} {kn : Nat → Int32} {ho : Nat → Int32} {kb0 : Nat → Int32} {hb0 : Nat → Int32} {gs : Int32} {le : Nat → Int32} {wi : Nat → Int32} {pr : Nat → Int32} {tp : Nat → Int32} {pt : Nat → Int32} {fr : Nat → Int64} {fb : Nat → Int64} {vk vh vc ve vq vg : Nat → Int32} (h : zRc N ni li mi mv nx al nc nl on il ba size ki fi se th kT hT kn ho kb0 hb0 gs le wi pr tp pt fr fb vk vh vc ve vq vg) : ∀ j : Nat, j < 12 → vp_in (se j) 6 := h.1.1.2.2.2.2.1
theorem zg_hgs0 {N : Nat} {ni : Int32} {li : Int32} {mi : Int32} {mv : Int32} {nx : Int32} {al : Int32} {nc : Int32} {nl : Int32} {on : Int32} {il : Int32} {ba : Int32} {size : Int32} {ki : Nat → Int32} {fi : Nat → Int32} {se : Nat → Int32} {th : Nat → Int32} {kT : Nat → Int32} {hT : Nat → Int32} {kn : Nat → Int32} {ho : Nat → Int32} {kb0 : Nat → Int32} {hb0 : Nat → Int32} {gs : Int32} {le : Nat → Int32} {wi : Nat → Int32} {pr : Nat → Int32} {tp : Nat → Int32} {pt : Nat → Int32} {fr : Nat → Int64} {fb : Nat → Int64} {vk vh vc ve vq vg : Nat → Int32} (h : zRc N ni li mi mv nx al nc nl on il ba size ki fi se th kT hT kn ho kb0 hb0 gs le wi pr tp pt fr fb vk vh vc ve vq vg) : 0 ≤ gs.toInt := h.1.2.1.1
theorem zg_hgs {N : Nat} {ni : Int32} {li : Int32} {mi : Int32} {mv : Int32} {nx : Int32} {al : Int32} {nc : Int32} {nl : Int32} {on : Int32} {il : Int32} {ba : Int32} {size : Int32} {ki : Nat → Int32} {fi : Nat → Int32} {se : Nat → Int32} {th : Nat → Int32} {kT : Nat → Int32} {hT : Nat → Int32} {kn : Nat → Int32} {ho : Nat → Int32} {kb0 : Nat → Int32} {hb0 : Nat → Int32} {gs : Int32} {le : Nat → Int32} {wi : Nat → Int32} {pr : Nat → Int32} {tp : Nat → Int32} {pt : Nat → Int32} {fr : Nat → Int64} {fb : Nat → Int64} {vk vh vc ve vq vg : Nat → Int32} (h : zRc N ni li mi mv nx al nc nl on il ba size ki fi se th kT hT kn ho kb0 hb0 gs le wi pr tp pt fr fb vk vh vc ve vq vg) : gs.toInt ≤ 6 := h.1.2.1.2.1
theorem zg_hPR {N : Nat} {ni : Int32} {li : Int32} {mi : Int32} {mv : Int32} {nx : Int32} {al : Int32} {nc : Int32} {nl : Int32} {on : Int32} {il : Int32} {ba : Int32} {size : Int32} {ki : Nat → Int32} {fi : Nat → Int32} {se : Nat → Int32} {th : Nat → Int32} {kT : Nat → Int32} {hT : Nat → Int32} {kn : Nat → Int32} {ho : Nat → Int32} {kb0 : Nat → Int32} {hb0 : Nat → Int32} {gs : Int32} {le : Nat → Int32} {wi : Nat → Int32} {pr : Nat → Int32} {tp : Nat → Int32} {pt : Nat → Int32} {fr : Nat → Int64} {fb : Nat → Int64} {vk vh vc ve vq vg : Nat → Int32} (h : zRc N ni li mi mv nx al nc nl on il ba size ki fi se th kT hT kn ho kb0 hb0 gs le wi pr tp pt fr fb vk vh vc ve vq vg) : ∀ j : Nat, j < 6 → pr j = -1 ∨ vp_in (pr j) 4 := h.1.2.1.2.2.2
theorem zg_hC {N : Nat} {ni : Int32} {li : Int32} {mi : Int32} {mv : Int32} {nx : Int32} {al : Int32} {nc : Int32} {nl : Int32} {on : Int32} {il : Int32} {ba : Int32} {size : Int32} {ki : Nat → Int32} {fi : Nat → Int32} {se : Nat → Int32} {th : Nat → Int32} {kT : Nat → Int32} {hT : Nat → Int32} {kn : Nat → Int32} {ho : Nat → Int32} {kb0 : Nat → Int32} {hb0 : Nat → Int32} {gs : Int32} {le : Nat → Int32} {wi : Nat → Int32} {pr : Nat → Int32} {tp : Nat → Int32} {pt : Nat → Int32} {fr : Nat → Int64} {fb : Nat → Int64} {vk vh vc ve vq vg : Nat → Int32} (h : zRc N ni li mi mv nx al nc nl on il ba size ki fi se th kT hT kn ho kb0 hb0 gs le wi pr tp pt fr fb vk vh vc ve vq vg) : ∀ j : Nat, j < 12 → zCg (vc j) := by
  obtain ⟨⟨iC, iG, iN, iS, iK0, iK, iH0, iH⟩, ⟨kA, kB⟩, ⟨hA, hB⟩, hc, ⟨hE, hTp⟩, hp, hg⟩ := h
  intro j hj
  obtain ⟨c0, c1, r2, r3, r4, r5, r6⟩ := iC
  rw [hc j hj]
  exact zcd_g (r2 j hj) (r3 j hj) (r4 j hj) (r5 j hj)
theorem zg_hg0 {N : Nat} {ni : Int32} {li : Int32} {mi : Int32} {mv : Int32} {nx : Int32} {al : Int32} {nc : Int32} {nl : Int32} {on : Int32} {il : Int32} {ba : Int32} {size : Int32} {ki : Nat → Int32} {fi : Nat → Int32} {se : Nat → Int32} {th : Nat → Int32} {kT : Nat → Int32} {hT : Nat → Int32} {kn : Nat → Int32} {ho : Nat → Int32} {kb0 : Nat → Int32} {hb0 : Nat → Int32} {gs : Int32} {le : Nat → Int32} {wi : Nat → Int32} {pr : Nat → Int32} {tp : Nat → Int32} {pt : Nat → Int32} {fr : Nat → Int64} {fb : Nat → Int64} {vk vh vc ve vq vg : Nat → Int32} (h : zRc N ni li mi mv nx al nc nl on il ba size ki fi se th kT hT kn ho kb0 hb0 gs le wi pr tp pt fr fb vk vh vc ve vq vg) : (vg ((0 : Int32)).toNatClampNeg).toInt ≤ 12 := by
  obtain ⟨⟨iC, iG, iN, iS, iK0, iK, iH0, iH⟩, ⟨kA, kB⟩, ⟨hA, hB⟩, hc, ⟨hE, hTp⟩, hp, hg⟩ := h
  rw [zN0, hg.1]
  exact iC.2.1
