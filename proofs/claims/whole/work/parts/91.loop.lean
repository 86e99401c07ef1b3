/-! the loop of the law -/
theorem zi_bd {i : Int32} {k L : Nat} (hi : i.toInt = 5 * k) (hL : L ≤ 2560) (h : ¬ (Int32.ofNat L - 5) < i) : 5 * k + 5 ≤ L := by
  rw [Int32.lt_iff_toInt_lt] at h
  have e1 : (Int32.ofNat L).toInt = L := Int32.toInt_ofNat_of_lt (by omega)
  have e5 : (5 : Int32).toInt = 5 := rfl
  rw [Int32.toInt_sub, e1, e5, Int.bmod_def] at h
  omega
theorem zi_ad {i : Int32} {k L : Nat} (hi : i.toInt = 5 * k) (hk : 5 * k + 5 ≤ L) (hL : L ≤ 2560) (d : Int32) (n : Nat) (hd : d.toInt = n) (hn : n ≤ 5) : (i + d).toInt = 5 * k + n := by
  rw [Int32.toInt_add, hi, hd, Int.bmod_def]
  omega
theorem zi_in {i : Int32} {k L : Nat} (hi : i.toInt = 5 * k) (hk : 5 * k + 5 ≤ L) (hL : L ≤ 2560) (d : Int32) (n : Nat) (hd : d.toInt = n) (hn : n ≤ 4) : vp_in (i + d) L := by
  have h := zi_ad hi hk hL d n hd (by omega)
  exact zin_b (by omega) (by omega)
set_option maxHeartbeats 4000000 in
set_option maxRecDepth 100000 in
theorem zl_law {p : Program} {l : Launch} {e : Env} {s : State} {m : MethodId} {below : List Frame} {meth : Method} {c : Code} {Q : State → Prop} {A : Nat → Prop} (hfl : l.stackTraces = false) {b L : Nat} {xs : Nat → Int32} {dC : Nat → ClassId} {dI : Nat → Nat → Nat} {cI cJ cD : ClassId} (hx : p.tables.exec = Jvm.exec) (hb : c.code = cL_law) (hml : c.maxLocals = 9) (hown : s.vm.findClass RL = some m.cls) (hts : ∀ w ∈ wsL_law, w.before #[Value.ref b] s = true) (hX : va_X b L xs s s.heap) (hbl : b < s.heap.size) (hbA : ¬ A b) (hK : va_K (dC, dI) vwCl [(cI, .int), (cJ, .long), (cD, .double)] s) (hG : zG A s) (hA : ∀ q, s.heap.size ≤ q → A q) (hL : L ≤ 2560) (za : ZA)
    (KE : ∀ (H : Heap) (locs : List Loc) (ls : Array Slot), va_S A s.heap H locs → lv_has ls 9 [] → W p l e room_1 s m #[Value.ref b] below meth c H locs 1087 8708 Q (F0 m 1616 ls [])) :
    ∀ (n k : Nat) (i : Int32) (zh : ZH) (zm : ZM) (fo : Nat → Int64) (fd : Nat → UInt64) (H : Heap) (locs : List Loc) (ls : Array Slot), zRel zh zm → i.toInt = 5 * k → L < 5 * k + 5 * n → k ≤ 512 → va_P (dC, dI) vwCl (zWd cI cJ cD za zh zm fo fd) H → va_D A (zWd cI cJ cD za zh zm fo fd) → va_S A s.heap H locs → lv_has ls 9 [(5, .int i), (0, .ref b), (1, .ref za.mh), (2, .ref za.w0), (3, .ref za.ao), (4, .ref za.ad)] → W p l e room_1 s m #[Value.ref b] below meth c H locs (45 + k) (408 + 6 * k) Q (F0 m 28 ls []) := by
  intro n
  induction n with
  | zero =>
    intro k i zh zm fo fd H locs ls hR hi hn hk hP hD hS hl
    refine lv_iload hx hb dL_law_28 (lv_at hl 0 rfl) ?_
    refine lv_aload_n hx hb dL_law_30 rfl (lv_at hl 1 rfl) ?_
    refine va_slen hx hb hX hbl hbA hS dL_law_31 ?_
    refine lv_iconst (v := 5) hx hb dL_law_32 (by decide) ?_
    refine lv_isub hx hb dL_law_33 ?_
    refine lv_icmp_gt (tgt := 1616) hx hb dL_law_34 (by decide) (fun c1 => ?_) (fun c1 => ?_)
    · exact W.widen (k := 1087) (n := 8708) (by omega) (by omega) (KE _ _ _ hS (lv_sub hl [] rfl))
    · exact absurd (zi_bd hi hL c1) (by omega)
  | succ n ih =>
    intro k i zh zm fo fd H locs ls hR hi hn hk hP hD hS hl
    refine lv_iload hx hb dL_law_28 (lv_at hl 0 rfl) ?_
    refine lv_aload_n hx hb dL_law_30 rfl (lv_at hl 1 rfl) ?_
    refine va_slen hx hb hX hbl hbA hS dL_law_31 ?_
    refine lv_iconst (v := 5) hx hb dL_law_32 (by decide) ?_
    refine lv_isub hx hb dL_law_33 ?_
    refine lv_icmp_gt (tgt := 1616) hx hb dL_law_34 (by decide) (fun c1 => ?_) (fun c1 => ?_)
    · exact W.widen (k := 1087) (n := 8708) (by omega) (by omega) (KE _ _ _ hS (lv_sub hl [] rfl))
    have hB := zi_bd hi hL c1
    have hi0 : vp_in i L := zin_b (by omega) (by omega)
    have hi1 : vp_in (i + (1 : Int32)) L := zi_in hi hB hL 1 1 rfl (by decide)
    have hi2 : vp_in (i + (2 : Int32)) L := zi_in hi hB hL 2 2 rfl (by decide)
    have hi3 : vp_in (i + (3 : Int32)) L := zi_in hi hB hL 3 3 rfl (by decide)
    have hi4 : vp_in (i + (4 : Int32)) L := zi_in hi hB hL 4 4 rfl (by decide)
    have hi5 : (i + (5 : Int32)).toInt = 5 * ((k + 1 : Nat) : Int) := by
      have h := zi_ad hi hB hL 5 5 rfl (by decide)
      omega
    have hRm : 45 + k + 1 ≤ 1087 ∧ 408 + 6 * k + 6 ≤ 8708 := by omega
    have K : ∀ (zh : ZH) (zm : ZM) (fo : Nat → Int64) (fd : Nat → UInt64) (H : Heap) (locs : List Loc) (ls : Array Slot), zRel zh zm → va_P (dC, dI) vwCl (zWd cI cJ cD za zh zm fo fd) H → va_D A (zWd cI cJ cD za zh zm fo fd) → va_S A s.heap H locs → lv_has ls 9 [(5, .int i), (0, .ref b), (1, .ref za.mh), (2, .ref za.w0), (3, .ref za.ao), (4, .ref za.ad)] → W p l e room_1 s m #[Value.ref b] below meth c H locs (45 + k + 1) (408 + 6 * k + 6) Q (F0 m 1610 ls []) := by
      intro zh zm fo fd H locs ls hR hP hD hS hl
      refine lv_iinc (v := (i + 5)) (lv' := [(5, .int (i + 5)), (0, .ref b), (1, .ref za.mh), (2, .ref za.w0), (3, .ref za.ao), (4, .ref za.ad)]) hx hb dL_law_1610 hl (k := 0) rfl rfl (by decide) rfl (fun ls hl => ?_)
      refine lv_goto (tgt := 28) hx hb dL_law_1613 (by decide) ?_
      exact ih (k + 1) (i + 5) zh zm fo fd H locs ls hR hi5 (by omega) (by omega) hP hD hS hl
    refine lv_aload_n hx hb dL_law_37 rfl (lv_at hl 1 rfl) ?_
    refine lv_iload hx hb dL_law_38 (lv_at hl 0 rfl) ?_
    refine va_sld hx hb hX hbl hbA hS (i := i) hi0 dL_law_40 ?_
    refine lv_bipush (v := 31) hx hb dL_law_41 (by decide) ?_
    refine lv_iand hx hb dL_law_43 ?_
    by_cases c_0 : (xs (i).toNatClampNeg &&& 31) = 0
    · refine lv_tableIn (off := 120) (tgt := 164) hx hb dL_law_44 (by rw [c_0]; decide) (by rw [c_0]; decide) (by rw [c_0]; decide) (by decide) ?_
      obtain ⟨y0, y1, hR1⟩ := zr_0 zh zm fo fd xs i hR
      exact zc_0 hfl hx hb hml hown hts hX hbl hbA hK hG hA hRm za zh zm fo fd i hi1 hi2 hi3 hi4 y0 y1 (fun H locs ls hP hD hS hl => K _ _ _ _ H locs ls hR1 hP hD hS hl) hP hD hS hl
    by_cases c_1 : (xs (i).toNatClampNeg &&& 31) = 1
    · refine lv_tableIn (off := 223) (tgt := 267) hx hb dL_law_44 (by rw [c_1]; decide) (by rw [c_1]; decide) (by rw [c_1]; decide) (by decide) ?_
      obtain ⟨y0, y1, hR1⟩ := zr_1 zh zm fo fd xs i hR
      exact zc_1 hfl hx hb hml hown hts hX hbl hbA hK hG hA hRm za zh zm fo fd i hi1 hi2 hi3 hi4 y0 y1 (fun H locs ls hP hD hS hl => K _ _ _ _ H locs ls hR1 hP hD hS hl) hP hD hS hl
    by_cases c_2 : (xs (i).toNatClampNeg &&& 31) = 2
    · refine lv_tableIn (off := 291) (tgt := 335) hx hb dL_law_44 (by rw [c_2]; decide) (by rw [c_2]; decide) (by rw [c_2]; decide) (by decide) ?_
      obtain ⟨y0, y1, y2, y3, y4, y5, hR1⟩ := zr_2 zh zm fo fd xs i hR
      exact zc_2 hfl hx hb hml hown hts hX hbl hbA hK hG hA hRm za zh zm fo fd i hi1 hi2 hi3 hi4 y0 y1 y2 y3 y4 y5 (fun H locs ls hP hD hS hl => K _ _ _ _ H locs ls hR1 hP hD hS hl) hP hD hS hl
    by_cases c_3 : (xs (i).toNatClampNeg &&& 31) = 3
    · refine lv_tableIn (off := 383) (tgt := 427) hx hb dL_law_44 (by rw [c_3]; decide) (by rw [c_3]; decide) (by rw [c_3]; decide) (by decide) ?_
      obtain ⟨y0, y1, hR1⟩ := zr_3 zh zm fo fd xs i hR
      exact zc_3 hfl hx hb hml hown hts hX hbl hbA hK hG hA hRm za zh zm fo fd i hi1 hi2 hi3 hi4 y0 y1 (fun H locs ls hP hD hS hl => K _ _ _ _ H locs ls hR1 hP hD hS hl) hP hD hS hl
    by_cases c_4 : (xs (i).toNatClampNeg &&& 31) = 4
    · refine lv_tableIn (off := 427) (tgt := 471) hx hb dL_law_44 (by rw [c_4]; decide) (by rw [c_4]; decide) (by rw [c_4]; decide) (by decide) ?_
      obtain ⟨y0, y1, hR1⟩ := zr_4 zh zm fo fd xs i hR
      exact zc_4 hfl hx hb hml hown hts hX hbl hbA hK hG hA hRm za zh zm fo fd i hi1 hi2 hi3 hi4 y0 y1 (fun H locs ls hP hD hS hl => K _ _ _ _ H locs ls hR1 hP hD hS hl) hP hD hS hl
    by_cases c_5 : (xs (i).toNatClampNeg &&& 31) = 5
    · refine lv_tableIn (off := 490) (tgt := 534) hx hb dL_law_44 (by rw [c_5]; decide) (by rw [c_5]; decide) (by rw [c_5]; decide) (by decide) ?_
      obtain ⟨y0, y1, hR1⟩ := zr_5 zh zm fo fd xs i hR
      exact zc_5 hfl hx hb hml hown hts hX hbl hbA hK hG hA hRm za zh zm fo fd i hi1 hi2 hi3 hi4 y0 y1 (fun H locs ls hP hD hS hl => K _ _ _ _ H locs ls hR1 hP hD hS hl) hP hD hS hl
    by_cases c_6 : (xs (i).toNatClampNeg &&& 31) = 6
    · refine lv_tableIn (off := 553) (tgt := 597) hx hb dL_law_44 (by rw [c_6]; decide) (by rw [c_6]; decide) (by rw [c_6]; decide) (by decide) ?_
      obtain ⟨y0, hR1⟩ := zr_6 zh zm fo fd xs i hR
      exact zc_6 hfl hx hb hml hown hts hX hbl hbA hK hG hA hRm za zh zm fo fd i hi1 hi2 hi3 hi4 y0 (fun H locs ls hP hD hS hl => K _ _ _ _ H locs ls hR1 hP hD hS hl) hP hD hS hl
    by_cases c_7 : (xs (i).toNatClampNeg &&& 31) = 7
    · refine lv_tableIn (off := 577) (tgt := 621) hx hb dL_law_44 (by rw [c_7]; decide) (by rw [c_7]; decide) (by rw [c_7]; decide) (by decide) ?_
      obtain ⟨y0, y1, y2, y3, y4, y5, hR1⟩ := zr_7 zh zm fo fd xs i hR
      exact zc_7 hfl hx hb hml hown hts hX hbl hbA hK hG hA hRm za zh zm fo fd i hi1 hi2 hi3 hi4 y0 y1 y2 y3 y4 y5 (fun H locs ls hP hD hS hl => K _ _ _ _ H locs ls hR1 hP hD hS hl) hP hD hS hl
    by_cases c_8 : (xs (i).toNatClampNeg &&& 31) = 8
    · refine lv_tableIn (off := 657) (tgt := 701) hx hb dL_law_44 (by rw [c_8]; decide) (by rw [c_8]; decide) (by rw [c_8]; decide) (by decide) ?_
      obtain ⟨y0, y1, hR1⟩ := zr_8 zh zm fo fd xs i hR
      exact zc_8 hfl hx hb hml hown hts hX hbl hbA hK hG hA hRm za zh zm fo fd i hi1 hi2 hi3 hi4 y0 y1 (fun H locs ls hP hD hS hl => K _ _ _ _ H locs ls hR1 hP hD hS hl) hP hD hS hl
    by_cases c_9 : (xs (i).toNatClampNeg &&& 31) = 9
    · refine lv_tableIn (off := 725) (tgt := 769) hx hb dL_law_44 (by rw [c_9]; decide) (by rw [c_9]; decide) (by rw [c_9]; decide) (by decide) ?_
      obtain ⟨y0, hR1⟩ := zr_9 zh zm fo fd xs i hR
      exact zc_9 hfl hx hb hml hown hts hX hbl hbA hK hG hA hRm za zh zm fo fd i hi1 hi2 hi3 hi4 y0 (fun H locs ls hP hD hS hl => K _ _ _ _ H locs ls hR1 hP hD hS hl) hP hD hS hl
    by_cases c_10 : (xs (i).toNatClampNeg &&& 31) = 10
    · refine lv_tableIn (off := 761) (tgt := 805) hx hb dL_law_44 (by rw [c_10]; decide) (by rw [c_10]; decide) (by rw [c_10]; decide) (by decide) ?_
      obtain ⟨y0, y1, y2, y3, y4, hR1⟩ := zr_10 zh zm fo fd xs i hR
      exact zc_10 hfl hx hb hml hown hts hX hbl hbA hK hG hA hRm za zh zm fo fd i hi1 hi2 hi3 hi4 y0 y1 y2 y3 y4 (fun H locs ls hP hD hS hl => K _ _ _ _ H locs ls hR1 hP hD hS hl) hP hD hS hl
    by_cases c_11 : (xs (i).toNatClampNeg &&& 31) = 11
    · refine lv_tableIn (off := 817) (tgt := 861) hx hb dL_law_44 (by rw [c_11]; decide) (by rw [c_11]; decide) (by rw [c_11]; decide) (by decide) ?_
      obtain ⟨y0, y1, y2, y3, y4, hR1⟩ := zr_11 zh zm fo fd xs i hR
      exact zc_11 hfl hx hb hml hown hts hX hbl hbA hK hG hA hRm za zh zm fo fd i hi1 hi2 hi3 hi4 y0 y1 y2 y3 y4 (fun H locs ls hP hD hS hl => K _ _ _ _ H locs ls hR1 hP hD hS hl) hP hD hS hl
    by_cases c_12 : (xs (i).toNatClampNeg &&& 31) = 12
    · refine lv_tableIn (off := 873) (tgt := 917) hx hb dL_law_44 (by rw [c_12]; decide) (by rw [c_12]; decide) (by rw [c_12]; decide) (by decide) ?_
      obtain ⟨y0, y1, y2, y3, y4, y5, y6, y7, y8, hR1⟩ := zr_12 zh zm fo fd xs i hR
      exact zc_12 hfl hx hb hml hown hts hX hbl hbA hK hG hA hRm za zh zm fo fd i hi1 hi2 hi3 hi4 y0 y1 y2 y3 y4 y5 y6 y7 y8 (fun H locs ls hP hD hS hl => K _ _ _ _ H locs ls hR1 hP hD hS hl) hP hD hS hl
    by_cases c_13 : (xs (i).toNatClampNeg &&& 31) = 13
    · refine lv_tableIn (off := 953) (tgt := 997) hx hb dL_law_44 (by rw [c_13]; decide) (by rw [c_13]; decide) (by rw [c_13]; decide) (by decide) ?_
      obtain ⟨y0, y1, y2, y3, y4, hR1⟩ := zr_13 zh zm fo fd xs i hR
      exact zc_13 hfl hx hb hml hown hts hX hbl hbA hK hG hA hRm za zh zm fo fd i hi1 hi2 hi3 hi4 y0 y1 y2 y3 y4 (fun H locs ls hP hD hS hl => K _ _ _ _ H locs ls hR1 hP hD hS hl) hP hD hS hl
    by_cases c_14 : (xs (i).toNatClampNeg &&& 31) = 14
    · refine lv_tableIn (off := 1033) (tgt := 1077) hx hb dL_law_44 (by rw [c_14]; decide) (by rw [c_14]; decide) (by rw [c_14]; decide) (by decide) ?_
      obtain ⟨y0, y1, hR1⟩ := zr_14 zh zm fo fd xs i hR
      exact zc_14 hfl hx hb hml hown hts hX hbl hbA hK hG hA hRm za zh zm fo fd i hi1 hi2 hi3 hi4 y0 y1 (fun H locs ls hP hD hS hl => K _ _ _ _ H locs ls hR1 hP hD hS hl) hP hD hS hl
    by_cases c_15 : (xs (i).toNatClampNeg &&& 31) = 15
    · refine lv_tableIn (off := 1101) (tgt := 1145) hx hb dL_law_44 (by rw [c_15]; decide) (by rw [c_15]; decide) (by rw [c_15]; decide) (by decide) ?_
      obtain ⟨y0, y1, y2, y3, y4, hR1⟩ := zr_15 zh zm fo fd xs i hR
      exact zc_15 hfl hx hb hml hown hts hX hbl hbA hK hG hA hRm za zh zm fo fd i hi1 hi2 hi3 hi4 y0 y1 y2 y3 y4 (fun H locs ls hP hD hS hl => K _ _ _ _ H locs ls hR1 hP hD hS hl) hP hD hS hl
    by_cases c_16 : (xs (i).toNatClampNeg &&& 31) = 16
    · refine lv_tableIn (off := 1169) (tgt := 1213) hx hb dL_law_44 (by rw [c_16]; decide) (by rw [c_16]; decide) (by rw [c_16]; decide) (by decide) ?_
      obtain ⟨y0, y1, y2, y3, y4, y5, y6, y7, hR1⟩ := zr_16 zh zm fo fd xs i hR
      exact zc_16 hfl hx hb hml hown hts hX hbl hbA hK hG hA hRm za zh zm fo fd i hi1 hi2 hi3 hi4 y0 y1 y2 y3 y4 y5 y6 y7 (fun H locs ls hP hD hS hl => K _ _ _ _ H locs ls hR1 hP hD hS hl) hP hD hS hl
    by_cases c_17 : (xs (i).toNatClampNeg &&& 31) = 17
    · refine lv_tableIn (off := 1237) (tgt := 1281) hx hb dL_law_44 (by rw [c_17]; decide) (by rw [c_17]; decide) (by rw [c_17]; decide) (by decide) ?_
      obtain ⟨y0, hR1⟩ := zr_17 zh zm fo fd xs i hR
      exact zc_17 hfl hx hb hml hown hts hX hbl hbA hK hG hA hRm za zh zm fo fd i hi1 hi2 hi3 hi4 y0 (fun H locs ls hP hD hS hl => K _ _ _ _ H locs ls hR1 hP hD hS hl) hP hD hS hl
    by_cases c_18 : (xs (i).toNatClampNeg &&& 31) = 18
    · refine lv_tableIn (off := 1250) (tgt := 1294) hx hb dL_law_44 (by rw [c_18]; decide) (by rw [c_18]; decide) (by rw [c_18]; decide) (by decide) ?_
      obtain ⟨y0, hR1⟩ := zr_18 zh zm fo fd xs i hR
      exact zc_18 hfl hx hb hml hown hts hX hbl hbA hK hG hA hRm za zh zm fo fd i hi1 hi2 hi3 hi4 y0 (fun H locs ls hP hD hS hl => K _ _ _ _ H locs ls hR1 hP hD hS hl) hP hD hS hl
    by_cases c_19 : (xs (i).toNatClampNeg &&& 31) = 19
    · refine lv_tableIn (off := 1263) (tgt := 1307) hx hb dL_law_44 (by rw [c_19]; decide) (by rw [c_19]; decide) (by rw [c_19]; decide) (by decide) ?_
      obtain ⟨y0, y1, y2, y3, y4, y5, y6, y7, hR1⟩ := zr_19 zh zm fo fd xs i hR
      exact zc_19 hfl hx hb hml hown hts hX hbl hbA hK hG hA hRm za zh zm fo fd i hi1 hi2 hi3 hi4 y0 y1 y2 y3 y4 y5 y6 y7 (fun H locs ls hP hD hS hl => K _ _ _ _ H locs ls hR1 hP hD hS hl) hP hD hS hl
    by_cases c_20 : (xs (i).toNatClampNeg &&& 31) = 20
    · refine lv_tableIn (off := 1276) (tgt := 1320) hx hb dL_law_44 (by rw [c_20]; decide) (by rw [c_20]; decide) (by rw [c_20]; decide) (by decide) ?_
      obtain ⟨y0, y1, y2, y3, y4, y5, y6, y7, hR1⟩ := zr_20 zh zm fo fd xs i hR
      exact zc_20 hfl hx hb hml hown hts hX hbl hbA hK hG hA hRm za zh zm fo fd i hi1 hi2 hi3 hi4 y0 y1 y2 y3 y4 y5 y6 y7 (fun H locs ls hP hD hS hl => K _ _ _ _ H locs ls hR1 hP hD hS hl) hP hD hS hl
    by_cases c_21 : (xs (i).toNatClampNeg &&& 31) = 21
    · refine lv_tableIn (off := 1289) (tgt := 1333) hx hb dL_law_44 (by rw [c_21]; decide) (by rw [c_21]; decide) (by rw [c_21]; decide) (by decide) ?_
      obtain ⟨y0, y1, y2, y3, y4, y5, y6, y7, y8, y9, hR1⟩ := zr_21 zh zm fo fd xs i hR
      exact zc_21 hfl hx hb hml hown hts hX hbl hbA hK hG hA hRm za zh zm fo fd i hi1 hi2 hi3 hi4 y0 y1 y2 y3 y4 y5 y6 y7 y8 y9 (fun H locs ls hP hD hS hl => K _ _ _ _ H locs ls hR1 hP hD hS hl) hP hD hS hl
    by_cases c_22 : (xs (i).toNatClampNeg &&& 31) = 22
    · refine lv_tableIn (off := 1302) (tgt := 1346) hx hb dL_law_44 (by rw [c_22]; decide) (by rw [c_22]; decide) (by rw [c_22]; decide) (by decide) ?_
      obtain ⟨y0, y1, hR1⟩ := zr_22 zh zm fo fd xs i hR
      exact zc_22 hfl hx hb hml hown hts hX hbl hbA hK hG hA hRm za zh zm fo fd i hi1 hi2 hi3 hi4 y0 y1 (fun H locs ls hP hD hS hl => K _ _ _ _ H locs ls hR1 hP hD hS hl) hP hD hS hl
    by_cases c_23 : (xs (i).toNatClampNeg &&& 31) = 23
    · refine lv_tableIn (off := 1377) (tgt := 1421) hx hb dL_law_44 (by rw [c_23]; decide) (by rw [c_23]; decide) (by rw [c_23]; decide) (by decide) ?_
      obtain ⟨y0, y1, hR1⟩ := zr_23 zh zm fo fd xs i hR
      exact zc_23 hfl hx hb hml hown hts hX hbl hbA hK hG hA hRm za zh zm fo fd i hi1 hi2 hi3 hi4 y0 y1 (fun H locs ls hP hD hS hl => K _ _ _ _ H locs ls hR1 hP hD hS hl) hP hD hS hl
    by_cases c_24 : (xs (i).toNatClampNeg &&& 31) = 24
    · refine lv_tableIn (off := 1433) (tgt := 1477) hx hb dL_law_44 (by rw [c_24]; decide) (by rw [c_24]; decide) (by rw [c_24]; decide) (by decide) ?_
      obtain ⟨y0, y1, hR1⟩ := zr_24 zh zm fo fd xs i hR
      exact zc_24 hfl hx hb hml hown hts hX hbl hbA hK hG hA hRm za zh zm fo fd i hi1 hi2 hi3 hi4 y0 y1 (fun H locs ls hP hD hS hl => K _ _ _ _ H locs ls hR1 hP hD hS hl) hP hD hS hl
    by_cases c_25 : (xs (i).toNatClampNeg &&& 31) = 25
    · refine lv_tableIn (off := 1489) (tgt := 1533) hx hb dL_law_44 (by rw [c_25]; decide) (by rw [c_25]; decide) (by rw [c_25]; decide) (by decide) ?_
      obtain ⟨y0, y1, hR1⟩ := zr_25 zh zm fo fd xs i hR
      exact zc_25 hfl hx hb hml hown hts hX hbl hbA hK hG hA hRm za zh zm fo fd i hi1 hi2 hi3 hi4 y0 y1 (fun H locs ls hP hD hS hl => K _ _ _ _ H locs ls hR1 hP hD hS hl) hP hD hS hl
    refine lv_tableOut (tgt := 1610) hx hb dL_law_44 (zOut0_25 c_0 c_1 c_2 c_3 c_4 c_5 c_6 c_7 c_8 c_9 c_10 c_11 c_12 c_13 c_14 c_15 c_16 c_17 c_18 c_19 c_20 c_21 c_22 c_23 c_24 c_25) (by decide) ?_
    exact W.widen (k := 45 + k + 1) (n := 408 + 6 * k + 6) (by omega) (by omega) (K zh zm fo fd H locs ls hR hP hD hS hl)
