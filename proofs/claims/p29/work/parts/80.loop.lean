/-! the loop of the law -/
theorem kL_law_c : Cond.constant RL 146 (60000) ∈ wsL_law := by decide +kernel
set_option maxHeartbeats 4000000 in
set_option maxRecDepth 100000 in
theorem zl_law {p : Program} {l : Launch} {e : Env} {s : State} {m : MethodId} {below : List Frame} {meth : Method} {c : Code} {Q : State → Prop} {A : Nat → Prop} (hfl : l.stackTraces = false) {b : Nat} {dC : Nat → ClassId} {dI : Nat → Nat → Nat} {cI cJ : ClassId} (hx : p.tables.exec = Jvm.exec) (hb : c.code = cL_law) (hml : c.maxLocals = 13) (hown : s.vm.findClass RL = some m.cls) (hts : ∀ w ∈ wsL_law, w.before #[Value.ref b] s = true) (hK : va_K (dC, dI) vwCl [(cI, .int), (cJ, .long)] s) (hG : zG A s) (hA : ∀ q, s.heap.size ≤ q → A q) {L : Nat} {xs : Nat → Int32} (hX : va_X b L xs s s.heap) (hbl : b < s.heap.size) (hbA : ¬ A b) (hL : L ≤ 260) (za : ZA)
    (KE : ∀ (H : Heap) (locs : List Loc) (ls : Array Slot), va_S A s.heap H locs → lv_has ls 13 [(8, .int (1 : Int32))] → W p l e room_1 s m #[Value.ref b] below meth c H locs 1200104 5501314 Q (F0 m 485 ls [])) :
    ∀ (f k : Nat) (n : Int32) (zh : ZH) (vk vh vc ve vq vg : Nat → Int32) (H : Heap) (locs : List Loc) (ls : Array Slot), zRc k zh.ni zh.li zh.mi zh.mv zh.nx zh.al zh.nc zh.nl zh.on zh.il zh.ba zh.size zh.ki zh.fi zh.se zh.th zh.kT zh.hT zh.kn zh.ho zh.kb0 zh.hb0 zh.gs zh.le zh.wi zh.pr zh.tp zh.pt zh.fr zh.fb vk vh vc ve vq vg → n.toInt = k → k ≤ 64 → 64 < k + f → va_P (dC, dI) vwCl (zWd cI cJ za zh vk vh vc ve vq vg) H → va_D A (zWd cI cJ za zh vk vh vc ve vq vg) → va_S A s.heap H locs → lv_has ls 13 [(8, .int (1 : Int32)), (9, .int n), (0, .ref b), (1, .ref za.mh), (2, .ref za.ak), (3, .ref za.ah), (4, .ref za.ac), (5, .ref za.ae), (6, .ref za.aq), (7, .ref za.ag)] → W p l e room_1 s m #[Value.ref b] below meth c H locs (60 + 12 * k) (600 + 128 * k) Q (F0 m 187 ls []) := by
  intro f
  induction f with
  | zero =>
    intro k n zh vk vh vc ve vq vg H locs ls hR hn hk hf
    omega
  | succ f ih =>
    intro k n zh vk vh vc ve vq vg H locs ls hR hn hk hf hP hD hS hl
    have e64 : (64 : Int32).toInt = 64 := rfl
    refine lv_iload hx hb dL_law_187 (lv_at hl 1 rfl) ?_
    refine lv_bipush (v := 64) hx hb dL_law_189 (by decide) ?_
    refine lv_icmp_ge (tgt := 485) hx hb dL_law_191 (by decide) (fun c1 => ?_) (fun c1 => ?_)
    · exact W.widen (k := 1200104) (n := 5501314) (by omega) (by omega) (KE _ _ _ hS (lv_sub hl [0] rfl))
    refine lv_iload hx hb dL_law_194 (lv_at hl 0 rfl) ?_
    refine lv_if_eq (tgt := 485) hx hb dL_law_196 (by decide) (fun c2 => ?_) (fun c2 => ?_)
    · exact absurd c2 (by decide)
    have hk2 : k < 64 := by
      rw [Int32.le_iff_toInt_le] at c1
      omega
    have hI := zInc c1
    have e3 : (3 : Int32).toInt = 3 := rfl
    have e3n := zmK (k := 3) (n := 3) (b := n) rfl (by omega) (by omega)
    have h3n : 0 ≤ ((3 : Int32) * n).toInt := by omega
    have e31 := zaT (a := (3 : Int32) * n) (b := 1) (by have e : (1 : Int32).toInt = 1 := rfl; omega) (by have e : (1 : Int32).toInt = 1 := rfl; omega)
    have e32 := zaT (a := (3 : Int32) * n) (b := 2) (by have e : (2 : Int32).toInt = 2 := rfl; omega) (by have e : (2 : Int32).toInt = 2 := rfl; omega)
    have h31 : 0 ≤ (((3 : Int32) * n) + (1 : Int32)).toInt := by have e : (1 : Int32).toInt = 1 := rfl; omega
    have h32 : 0 ≤ (((3 : Int32) * n) + (2 : Int32)).toInt := by have e : (2 : Int32).toInt = 2 := rfl; omega
    have K4 : ∀ (one : Int32), 0 ≤ one.toInt → ∀ (zh : ZH) (vk vh vc ve vq vg : Nat → Int32) (H : Heap) (locs : List Loc) (ls : Array Slot), zRc (k + 1) zh.ni zh.li zh.mi zh.mv zh.nx zh.al zh.nc zh.nl zh.on zh.il zh.ba zh.size zh.ki zh.fi zh.se zh.th zh.kT zh.hT zh.kn zh.ho zh.kb0 zh.hb0 zh.gs zh.le zh.wi zh.pr zh.tp zh.pt zh.fr zh.fb vk vh vc ve vq vg → va_P (dC, dI) vwCl (zWd cI cJ za zh vk vh vc ve vq vg) H → va_D A (zWd cI cJ za zh vk vh vc ve vq vg) → va_S A s.heap H locs → lv_has ls 13 [(8, .int (1 : Int32)), (9, .int n), (11, .int one), (0, .ref b), (1, .ref za.mh), (2, .ref za.ak), (3, .ref za.ah), (4, .ref za.ac), (5, .ref za.ae), (6, .ref za.aq), (7, .ref za.ag)] → W p l e room_1 s m #[Value.ref b] below meth c H locs (60 + 12 * k + 6) (600 + 128 * k + 64) Q (F0 m 450 ls []) := by
      intro one ho zh vk vh vc ve vq vg H locs ls hR hP hD hS hl
      obtain ⟨y0, y1, y2, y3, y4, y5, y6, y7, y8, y9, y10, yr, hR1⟩ := zT_so hR one ho
      exact zc_S hfl hx hb hml hown hts hK hG hA (kc := 60 + 12 * k + 6) (ns := 600 + 128 * k + 64) (by omega) za zh vk vh vc ve vq vg one n (zg_hsz0 hR) (zg_hsz hR) (zg_hTH hR) (zg_hFI hR) (zg_hSE hR) (zg_hC hR) (zg_hg0 hR) y0 y1 y2 y3 y4 y5 y6 y7 y8 y9 y10 yr (fun H locs ls hP hD hS hl => W.widen (k := 60 + 12 * (k + 1)) (n := 600 + 128 * (k + 1)) (by omega) (by omega) (ih (k + 1) (n + 1) _ _ _ _ _ _ _ H locs ls (zR_of _ _ _ _ _ _ _ _ _ _ _ _ _ _ _ _ _ _ _ _ _ _ _ _ _ _ _ _ _ _ _ _ _ _ _ _ _ hR1) (by omega) (by omega) (by omega) hP hD hS hl)) hP hD hS hl
    have KW : ∀ (wt one two : Int32), 0 ≤ wt.toInt → wt.toInt < 48 → 0 ≤ one.toInt → 0 ≤ two.toInt → ∀ (ls : Array Slot), lv_has ls 13 [(10, .int wt), (11, .int one), (12, .int two), (9, .int n), (8, .int (1 : Int32)), (0, .ref b), (1, .ref za.mh), (2, .ref za.ak), (3, .ref za.ah), (4, .ref za.ac), (5, .ref za.ae), (6, .ref za.aq), (7, .ref za.ag)] → W p l e room_1 s m #[Value.ref b] below meth c H locs (60 + 12 * k) (600 + 128 * k) Q (F0 m 295 ls []) := by
      intro wt one two w0 w48 o0 t0 ls hl
      by_cases w0 : wt = (0 : Int32)
      · subst w0
        obtain ⟨y0, y1, y2, yr, hR1⟩ := zT_0 hR one two o0 t0
        exact zc_T0 hfl hx hb hml hown hts hK hG hA (kc := 60 + 12 * k) (ns := 600 + 128 * k) (by omega) za zh vk vh vc ve vq vg one two n y0 y1 y2 yr (fun H locs ls hP hD hS hl => K4 one o0 _ _ _ _ _ _ _ H locs ls (zR_of _ _ _ _ _ _ _ _ _ _ _ _ _ _ _ _ _ _ _ _ _ _ _ _ _ _ _ _ _ _ _ _ _ _ _ _ _ (zR_le hR1 (Nat.le_succ k))) hP hD hS hl) hP hD hS hl
      by_cases w1 : wt = (1 : Int32)
      · subst w1
        obtain ⟨y0, y1, y2, yr, hR1⟩ := zT_1 hR one two o0 t0
        exact zc_T1 hfl hx hb hml hown hts hK hG hA (kc := 60 + 12 * k) (ns := 600 + 128 * k) (by omega) za zh vk vh vc ve vq vg one two n y0 y1 y2 yr (fun H locs ls hP hD hS hl => K4 one o0 _ _ _ _ _ _ _ H locs ls (zR_of _ _ _ _ _ _ _ _ _ _ _ _ _ _ _ _ _ _ _ _ _ _ _ _ _ _ _ _ _ _ _ _ _ _ _ _ _ (zR_le hR1 (Nat.le_succ k))) hP hD hS hl) hP hD hS hl
      by_cases w2 : wt = (2 : Int32)
      · subst w2
        obtain ⟨y0, yr, hR1⟩ := zT_2 hR one two o0 t0
        exact zc_T2 hfl hx hb hml hown hts hK hG hA (kc := 60 + 12 * k) (ns := 600 + 128 * k) (by omega) za zh vk vh vc ve vq vg one two n (zg_hsz0 hR) (zg_hsz hR) y0 yr (fun H locs ls hP hD hS hl => K4 one o0 _ _ _ _ _ _ _ H locs ls (zR_of _ _ _ _ _ _ _ _ _ _ _ _ _ _ _ _ _ _ _ _ _ _ _ _ _ _ _ _ _ _ _ _ _ _ _ _ _ (zR_le hR1 (Nat.le_succ k))) hP hD hS hl) hP hD hS hl
      by_cases w3 : wt = (3 : Int32)
      · subst w3
        obtain ⟨yr, hR1⟩ := zT_3 hR one two o0 t0
        exact zc_T3 hfl hx hb hml hown hts hK hG hA (kc := 60 + 12 * k) (ns := 600 + 128 * k) (by omega) za zh vk vh vc ve vq vg one two n  yr (fun H locs ls hP hD hS hl => K4 one o0 _ _ _ _ _ _ _ H locs ls (zR_of _ _ _ _ _ _ _ _ _ _ _ _ _ _ _ _ _ _ _ _ _ _ _ _ _ _ _ _ _ _ _ _ _ _ _ _ _ (zR_le hR1 (Nat.le_succ k))) hP hD hS hl) hP hD hS hl
      by_cases w4 : wt = (4 : Int32)
      · subst w4
        obtain ⟨yr, hR1⟩ := zT_4 hR one two o0 t0
        exact zc_T4 hfl hx hb hml hown hts hK hG hA (kc := 60 + 12 * k) (ns := 600 + 128 * k) (by omega) za zh vk vh vc ve vq vg one two n  yr (fun H locs ls hP hD hS hl => K4 one o0 _ _ _ _ _ _ _ H locs ls (zR_of _ _ _ _ _ _ _ _ _ _ _ _ _ _ _ _ _ _ _ _ _ _ _ _ _ _ _ _ _ _ _ _ _ _ _ _ _ (zR_le hR1 (Nat.le_succ k))) hP hD hS hl) hP hD hS hl
      by_cases w5 : wt = (5 : Int32)
      · subst w5
        obtain ⟨yr, hR1⟩ := zT_5 hR one two o0 t0
        exact zc_T5 hfl hx hb hml hown hts hK hG hA (kc := 60 + 12 * k) (ns := 600 + 128 * k) (by omega) za zh vk vh vc ve vq vg one two n  yr (fun H locs ls hP hD hS hl => K4 one o0 _ _ _ _ _ _ _ H locs ls (zR_of _ _ _ _ _ _ _ _ _ _ _ _ _ _ _ _ _ _ _ _ _ _ _ _ _ _ _ _ _ _ _ _ _ _ _ _ _ (zR_le hR1 (Nat.le_succ k))) hP hD hS hl) hP hD hS hl
      by_cases w6 : wt = (6 : Int32)
      · subst w6
        obtain ⟨y0, yr, hR1⟩ := zT_6 hR one two o0 t0
        exact zc_T6 hfl hx hb hml hown hts hK hG hA (kc := 60 + 12 * k) (ns := 600 + 128 * k) (by omega) za zh vk vh vc ve vq vg one two n (zg_hgs0 hR) (zg_hgs hR) y0 yr (fun H locs ls hP hD hS hl => K4 one o0 _ _ _ _ _ _ _ H locs ls (zR_of _ _ _ _ _ _ _ _ _ _ _ _ _ _ _ _ _ _ _ _ _ _ _ _ _ _ _ _ _ _ _ _ _ _ _ _ _ (zR_le hR1 (Nat.le_succ k))) hP hD hS hl) hP hD hS hl
      by_cases w7 : wt = (7 : Int32)
      · subst w7
        obtain ⟨y0, y1, yr, hR1⟩ := zT_7 hR one two o0 t0
        exact zc_T7 hfl hx hb hml hown hts hK hG hA (kc := 60 + 12 * k) (ns := 600 + 128 * k) (by omega) za zh vk vh vc ve vq vg one two n y0 y1 yr (fun H locs ls hP hD hS hl => K4 one o0 _ _ _ _ _ _ _ H locs ls (zR_of _ _ _ _ _ _ _ _ _ _ _ _ _ _ _ _ _ _ _ _ _ _ _ _ _ _ _ _ _ _ _ _ _ _ _ _ _ (zR_le hR1 (Nat.le_succ k))) hP hD hS hl) hP hD hS hl
      by_cases w8 : wt = (8 : Int32)
      · subst w8
        obtain ⟨y0, y1, yr, hR1⟩ := zT_7 hR one two o0 t0
        exact zc_T8 hfl hx hb hml hown hts hK hG hA (kc := 60 + 12 * k) (ns := 600 + 128 * k) (by omega) za zh vk vh vc ve vq vg one two n y0 y1 yr (fun H locs ls hP hD hS hl => K4 one o0 _ _ _ _ _ _ _ H locs ls (zR_of _ _ _ _ _ _ _ _ _ _ _ _ _ _ _ _ _ _ _ _ _ _ _ _ _ _ _ _ _ _ _ _ _ _ _ _ _ (zR_le hR1 (Nat.le_succ k))) hP hD hS hl) hP hD hS hl
      have e9 : (9 : Int32).toInt = 9 := rfl
      have f0 : wt.toInt ≠ 0 := fun q => w0 (Int32.toInt_inj.mp q)
      have f1 : wt.toInt ≠ 1 := fun q => w1 (Int32.toInt_inj.mp q)
      have f2 : wt.toInt ≠ 2 := fun q => w2 (Int32.toInt_inj.mp q)
      have f3 : wt.toInt ≠ 3 := fun q => w3 (Int32.toInt_inj.mp q)
      have f4 : wt.toInt ≠ 4 := fun q => w4 (Int32.toInt_inj.mp q)
      have f5 : wt.toInt ≠ 5 := fun q => w5 (Int32.toInt_inj.mp q)
      have f6 : wt.toInt ≠ 6 := fun q => w6 (Int32.toInt_inj.mp q)
      have f7 : wt.toInt ≠ 7 := fun q => w7 (Int32.toInt_inj.mp q)
      have f8 : wt.toInt ≠ 8 := fun q => w8 (Int32.toInt_inj.mp q)
      have hw1 : (9 : Int32) ≤ wt := by rw [Int32.le_iff_toInt_le]; omega
      by_cases hw2 : (14 : Int32) ≤ wt
      case neg =>
        obtain ⟨yr, hR1⟩ := zT_N hR one o0
        exact zc_N hfl hx hb hml hown hts hK hG hA (kc := 60 + 12 * k) (ns := 600 + 128 * k) (by omega) za zh vk vh vc ve vq vg one two n wt hw1 hw2  yr (fun H locs ls hP hD hS hl => K4 one o0 _ _ _ _ _ _ _ H locs ls (zR_of _ _ _ _ _ _ _ _ _ _ _ _ _ _ _ _ _ _ _ _ _ _ _ _ _ _ _ _ _ _ _ _ _ _ _ _ _ (zR_le hR1 (Nat.le_succ k))) hP hD hS hl) hP hD hS hl
      by_cases hw3 : (24 : Int32) ≤ wt
      case neg =>
        obtain ⟨y0, yr, hR1⟩ := zT_m0 hR one two o0 t0
        exact zc_M0 hfl hx hb hml hown hts hK hG hA (kc := 60 + 12 * k) (ns := 600 + 128 * k) (by omega) za zh vk vh vc ve vq vg one two n wt hw1 hw2 hw3 (zg_hsz0 hR) (zg_hsz hR) y0 yr (fun H locs ls hP hD hS hl => K4 one o0 _ _ _ _ _ _ _ H locs ls (zR_of _ _ _ _ _ _ _ _ _ _ _ _ _ _ _ _ _ _ _ _ _ _ _ _ _ _ _ _ _ _ _ _ _ _ _ _ _ hR1) hP hD hS hl) hP hD hS hl
      by_cases hw4 : wt = (24 : Int32)
      case pos =>
        obtain ⟨y0, yr, hR1⟩ := zT_m3 hR one two o0 t0
        exact zc_M3 hfl hx hb hml hown hts hK hG hA (kc := 60 + 12 * k) (ns := 600 + 128 * k) (by omega) za zh vk vh vc ve vq vg one two n wt hw1 hw2 hw3 hw4 (zg_hsz0 hR) (zg_hsz hR) y0 yr (fun H locs ls hP hD hS hl => K4 one o0 _ _ _ _ _ _ _ H locs ls (zR_of _ _ _ _ _ _ _ _ _ _ _ _ _ _ _ _ _ _ _ _ _ _ _ _ _ _ _ _ _ _ _ _ _ _ _ _ _ hR1) hP hD hS hl) hP hD hS hl
      by_cases hw5 : (31 : Int32) ≤ wt
      case neg =>
        obtain ⟨y0, y1, y2, y3, y4, y5, y6, y7, yr, hR1⟩ := zT_m4 hR one two o0 t0
        exact zc_M4 hfl hx hb hml hown hts hK hG hA (kc := 60 + 12 * k) (ns := 600 + 128 * k) (by omega) za zh vk vh vc ve vq vg one two n wt hw1 hw2 hw3 hw4 hw5 (zg_hsz0 hR) (zg_hsz hR) (zg_hTH hR) (zg_hC hR) (zg_hg0 hR) y0 y1 y2 y3 y4 y5 y6 y7 yr (fun H locs ls hP hD hS hl => K4 one o0 _ _ _ _ _ _ _ H locs ls (zR_of _ _ _ _ _ _ _ _ _ _ _ _ _ _ _ _ _ _ _ _ _ _ _ _ _ _ _ _ _ _ _ _ _ _ _ _ _ hR1) hP hD hS hl) hP hD hS hl
      by_cases hw6 : (36 : Int32) ≤ wt
      case neg =>
        obtain ⟨y0, y1, y2, yr, hR1⟩ := zT_m6 hR one two o0 t0
        exact zc_M6 hfl hx hb hml hown hts hK hG hA (kc := 60 + 12 * k) (ns := 600 + 128 * k) (by omega) za zh vk vh vc ve vq vg one two n wt hw1 hw2 hw3 hw4 hw5 hw6 (zg_hsz0 hR) (zg_hsz hR) y0 y1 y2 yr (fun H locs ls hP hD hS hl => K4 one o0 _ _ _ _ _ _ _ H locs ls (zR_of _ _ _ _ _ _ _ _ _ _ _ _ _ _ _ _ _ _ _ _ _ _ _ _ _ _ _ _ _ _ _ _ _ _ _ _ _ hR1) hP hD hS hl) hP hD hS hl
      by_cases hw7 : (40 : Int32) ≤ wt
      case neg =>
        obtain ⟨y0, y1, y2, yr, hR1⟩ := zT_m8 hR one two o0 t0
        exact zc_M8 hfl hx hb hml hown hts hK hG hA (kc := 60 + 12 * k) (ns := 600 + 128 * k) (by omega) za zh vk vh vc ve vq vg one two n wt hw1 hw2 hw3 hw4 hw5 hw6 hw7 y0 y1 y2 yr (fun H locs ls hP hD hS hl => K4 one o0 _ _ _ _ _ _ _ H locs ls (zR_of _ _ _ _ _ _ _ _ _ _ _ _ _ _ _ _ _ _ _ _ _ _ _ _ _ _ _ _ _ _ _ _ _ _ _ _ _ hR1) hP hD hS hl) hP hD hS hl
      by_cases hw8 : (45 : Int32) ≤ wt
      case neg =>
        obtain ⟨y0, yr, hR1⟩ := zT_m9 hR one two o0 t0
        exact zc_M9 hfl hx hb hml hown hts hK hG hA (kc := 60 + 12 * k) (ns := 600 + 128 * k) (by omega) za zh vk vh vc ve vq vg one two n wt hw1 hw2 hw3 hw4 hw5 hw6 hw7 hw8 (zg_hsz0 hR) (zg_hsz hR) y0 yr (fun H locs ls hP hD hS hl => K4 one o0 _ _ _ _ _ _ _ H locs ls (zR_of _ _ _ _ _ _ _ _ _ _ _ _ _ _ _ _ _ _ _ _ _ _ _ _ _ _ _ _ _ _ _ _ _ _ _ _ _ hR1) hP hD hS hl) hP hD hS hl
      obtain ⟨y0, y1, y2, y3, y4, y5, y6, y7, y8⟩ := zT_m11p hR (by omega) one two o0 t0
      obtain ⟨yr, hR1⟩ := zT_m11 hR (by omega) one two o0 t0
      exact zc_M11 hfl hx hb hml hown hts hK hG hA (kc := 60 + 12 * k) (ns := 600 + 128 * k) (by omega) za zh vk vh vc ve vq vg one two n wt hw1 hw2 hw3 hw4 hw5 hw6 hw7 hw8 (zg_hgs0 hR) (zg_hgs hR) (zg_hPR hR) y0 y1 y2 y3 y4 y5 y6 y7 y8 yr (fun H locs ls hP hD hS hl => K4 one o0 _ _ _ _ _ _ _ H locs ls (zR_of _ _ _ _ _ _ _ _ _ _ _ _ _ _ _ _ _ _ _ _ _ _ _ _ _ _ _ _ _ _ _ _ _ _ _ _ _ hR1) hP hD hS hl) hP hD hS hl
    have KJ : ∀ (wt : Int32), 0 ≤ wt.toInt → wt.toInt < 48 → ∀ (ls : Array Slot), lv_has ls 13 [(9, .int n), (8, .int (1 : Int32)), (0, .ref b), (1, .ref za.mh), (2, .ref za.ak), (3, .ref za.ah), (4, .ref za.ac), (5, .ref za.ae), (6, .ref za.aq), (7, .ref za.ag)] → W p l e room_1 s m #[Value.ref b] below meth c H locs (60 + 12 * k) (600 + 128 * k) Q (F0 m 265 ls [.int wt]) := by
      intro wt w0 w48 ls hl
      refine lv_istore (lv' := [(10, .int wt), (9, .int n), (8, .int (1 : Int32)), (0, .ref b), (1, .ref za.mh), (2, .ref za.ak), (3, .ref za.ah), (4, .ref za.ac), (5, .ref za.ae), (6, .ref za.aq), (7, .ref za.ag)]) hx hb dL_law_265 hl (by decide) rfl (fun ls hl => ?_)
      refine lv_aload_n hx hb dL_law_267 rfl (lv_at hl 3 rfl) ?_
      refine lv_iconst (v := 3) hx hb dL_law_268 (by decide) ?_
      refine lv_iload hx hb dL_law_269 (lv_at hl 1 rfl) ?_
      refine lv_imul hx hb dL_law_271 ?_
      refine lv_iconst (v := 1) hx hb dL_law_272 (by decide) ?_
      refine lv_iadd hx hb dL_law_273 ?_
      refine lv_ldc (v := 60000) hx hb hown (hts _ kL_law_c) dL_law_274 ?_
      refine zcSi (va_runS (As := [.ref b, .int (((3 : Int32) * n) + (1 : Int32)), .int (60000 : Int32)]) (rest := []) ⟨hx, hb, hml, hown, hts⟩ (c_L_part l b L xs (((3 : Int32) * n) + (1 : Int32)) (60000 : Int32) h31 hL (by decide)) (va_cwS 3 hts gL_law_L_part rfl rfl rfl (by decide +kernel) ⟨Nat.le_of_ble_eq_true rfl, Nat.le_of_ble_eq_true rfl⟩) (zpX hX hbl hbA hS) rfl rfl hl.1 rfl (lv_room (Nat.le_of_ble_eq_true rfl)) dL_law_276 ⟨(show 60 + 12 * k + 0 ≤ 1200104 by omega), (show 600 + 128 * k + 0 ≤ 5501314 by omega)⟩) ?_
      refine lv_istore (lv' := [(11, .int (rL_part L xs (((3 : Int32) * n) + (1 : Int32)) (60000 : Int32))), (10, .int wt), (9, .int n), (8, .int (1 : Int32)), (0, .ref b), (1, .ref za.mh), (2, .ref za.ak), (3, .ref za.ah), (4, .ref za.ac), (5, .ref za.ae), (6, .ref za.aq), (7, .ref za.ag)]) hx hb dL_law_279 hl (by decide) rfl (fun ls hl => ?_)
      refine lv_aload_n hx hb dL_law_281 rfl (lv_at hl 4 rfl) ?_
      refine lv_iconst (v := 3) hx hb dL_law_282 (by decide) ?_
      refine lv_iload hx hb dL_law_283 (lv_at hl 2 rfl) ?_
      refine lv_imul hx hb dL_law_285 ?_
      refine lv_iconst (v := 2) hx hb dL_law_286 (by decide) ?_
      refine lv_iadd hx hb dL_law_287 ?_
      refine lv_ldc (v := 60000) hx hb hown (hts _ kL_law_c) dL_law_288 ?_
      refine zcSi (va_runS (As := [.ref b, .int (((3 : Int32) * n) + (2 : Int32)), .int (60000 : Int32)]) (rest := []) ⟨hx, hb, hml, hown, hts⟩ (c_L_part l b L xs (((3 : Int32) * n) + (2 : Int32)) (60000 : Int32) h32 hL (by decide)) (va_cwS 3 hts gL_law_L_part rfl rfl rfl (by decide +kernel) ⟨Nat.le_of_ble_eq_true rfl, Nat.le_of_ble_eq_true rfl⟩) (zpX hX hbl hbA hS) rfl rfl hl.1 rfl (lv_room (Nat.le_of_ble_eq_true rfl)) dL_law_290 ⟨(show 60 + 12 * k + 0 ≤ 1200104 by omega), (show 600 + 128 * k + 0 ≤ 5501314 by omega)⟩) ?_
      refine lv_istore (lv' := [(12, .int (rL_part L xs (((3 : Int32) * n) + (2 : Int32)) (60000 : Int32))), (11, .int (rL_part L xs (((3 : Int32) * n) + (1 : Int32)) (60000 : Int32))), (10, .int wt), (9, .int n), (8, .int (1 : Int32)), (0, .ref b), (1, .ref za.mh), (2, .ref za.ak), (3, .ref za.ah), (4, .ref za.ac), (5, .ref za.ae), (6, .ref za.aq), (7, .ref za.ag)]) hx hb dL_law_293 hl (by decide) rfl (fun ls hl => ?_)
      exact KW wt _ _ w0 w48 (zpt L xs _ _ 60000 rfl (by decide)).1 (zpt L xs _ _ 60000 rfl (by decide)).1 ls (lv_sub hl [2, 1, 0, 3, 4, 5, 6, 7, 8, 9, 10, 11, 12] rfl)
    have hl2 : lv_has ls 13 [(9, .int n), (8, .int (1 : Int32)), (0, .ref b), (1, .ref za.mh), (2, .ref za.ak), (3, .ref za.ah), (4, .ref za.ac), (5, .ref za.ae), (6, .ref za.aq), (7, .ref za.ag)] := lv_sub hl [1, 0, 2, 3, 4, 5, 6, 7, 8, 9] rfl
    refine lv_iload hx hb dL_law_199 (lv_at hl2 0 rfl) ?_
    refine lv_iconst (v := 4) hx hb dL_law_201 (by decide) ?_
    refine lv_icmp_ge (tgt := 209) hx hb dL_law_202 (by decide) (fun d202 => ?_) (fun d202 => ?_)
    case refine_2 =>
      refine lv_iconst (v := 0) hx hb dL_law_205 (by decide) ?_
      refine lv_goto (tgt := 265) hx hb dL_law_206 (by decide) ?_
      exact KJ (0 : Int32) (by decide) (by decide) ls hl2
    refine lv_iload hx hb dL_law_209 (lv_at hl2 0 rfl) ?_
    refine lv_bipush (v := 6) hx hb dL_law_211 (by decide) ?_
    refine lv_icmp_ge (tgt := 220) hx hb dL_law_213 (by decide) (fun d213 => ?_) (fun d213 => ?_)
    case refine_2 =>
      refine lv_iconst (v := 1) hx hb dL_law_216 (by decide) ?_
      refine lv_goto (tgt := 265) hx hb dL_law_217 (by decide) ?_
      exact KJ (1 : Int32) (by decide) (by decide) ls hl2
    refine lv_iload hx hb dL_law_220 (lv_at hl2 0 rfl) ?_
    refine lv_bipush (v := 10) hx hb dL_law_222 (by decide) ?_
    refine lv_icmp_ge (tgt := 231) hx hb dL_law_224 (by decide) (fun d224 => ?_) (fun d224 => ?_)
    case refine_2 =>
      refine lv_iconst (v := 2) hx hb dL_law_227 (by decide) ?_
      refine lv_goto (tgt := 265) hx hb dL_law_228 (by decide) ?_
      exact KJ (2 : Int32) (by decide) (by decide) ls hl2
    refine lv_iload hx hb dL_law_231 (lv_at hl2 0 rfl) ?_
    refine lv_bipush (v := 11) hx hb dL_law_233 (by decide) ?_
    refine lv_icmp_ge (tgt := 243) hx hb dL_law_235 (by decide) (fun d235 => ?_) (fun d235 => ?_)
    case refine_2 =>
      refine lv_bipush (v := 6) hx hb dL_law_238 (by decide) ?_
      refine lv_goto (tgt := 265) hx hb dL_law_240 (by decide) ?_
      exact KJ (6 : Int32) (by decide) (by decide) ls hl2
    refine lv_iload hx hb dL_law_243 (lv_at hl2 0 rfl) ?_
    refine lv_bipush (v := 12) hx hb dL_law_245 (by decide) ?_
    refine lv_icmp_ge (tgt := 255) hx hb dL_law_247 (by decide) (fun d247 => ?_) (fun d247 => ?_)
    case refine_2 =>
      refine lv_bipush (v := 10) hx hb dL_law_250 (by decide) ?_
      refine lv_goto (tgt := 265) hx hb dL_law_252 (by decide) ?_
      exact KJ (10 : Int32) (by decide) (by decide) ls hl2
    refine lv_aload_n hx hb dL_law_255 rfl (lv_at hl2 2 rfl) ?_
    refine lv_iconst (v := 3) hx hb dL_law_256 (by decide) ?_
    refine lv_iload hx hb dL_law_257 (lv_at hl2 0 rfl) ?_
    refine lv_imul hx hb dL_law_259 ?_
    refine lv_bipush (v := 48) hx hb dL_law_260 (by decide) ?_
    refine zcSi (va_runS (As := [.ref b, .int ((3 : Int32) * n), .int (48 : Int32)]) (rest := []) ⟨hx, hb, hml, hown, hts⟩ (c_L_part l b L xs ((3 : Int32) * n) (48 : Int32) h3n hL (by decide)) (va_cwS 3 hts gL_law_L_part rfl rfl rfl (by decide +kernel) ⟨Nat.le_of_ble_eq_true rfl, Nat.le_of_ble_eq_true rfl⟩) (zpX hX hbl hbA hS) rfl rfl hl2.1 rfl (lv_room (Nat.le_of_ble_eq_true rfl)) dL_law_262 ⟨(show 60 + 12 * k + 0 ≤ 1200104 by omega), (show 600 + 128 * k + 0 ≤ 5501314 by omega)⟩) ?_
    exact KJ _ (zpt L xs _ _ 48 rfl (by decide)).1 (zpt L xs _ _ 48 rfl (by decide)).2 ls hl2
