/-! the start of both sides; count -/
theorem zin0 : oX8_init_mFh = oJ7_fill_53178_f (fun _ => (0 : Int32)) 4 (-1 : Int32) := by
  funext j
  match j with
  | 0 => decide +kernel
  | 1 => decide +kernel
  | 2 => decide +kernel
  | 3 => decide +kernel
  | n + 4 => simp [oX8_init_mFh, lX8_init_125_mFh, qX8_init_150_mFh, lX8_init_152_mFh, oJ7_fill_53178_f, lJ7_fill_53178_5_f, upd]
theorem zin1 : oX8_init_mHa = oJ7_fill_53178_f (fun _ => (0 : Int32)) 4 (-1 : Int32) := by
  funext j
  match j with
  | 0 => decide +kernel
  | 1 => decide +kernel
  | 2 => decide +kernel
  | 3 => decide +kernel
  | n + 4 => simp [oX8_init_mHa, lX8_init_125_mHa, qX8_init_150_mHa, lX8_init_152_mHa, oJ7_fill_53178_f, lJ7_fill_53178_5_f, upd]
theorem zin2 : oX8_init_mPt = oJ7_fill_53178_f (fun _ => (0 : Int32)) 6 (1 : Int32) := by
  funext j
  match j with
  | 0 => decide +kernel
  | 1 => decide +kernel
  | 2 => decide +kernel
  | 3 => decide +kernel
  | 4 => decide +kernel
  | 5 => decide +kernel
  | n + 6 => simp [oX8_init_mPt, lX8_init_125_mPt, qX8_init_150_mPt, lX8_init_152_mPt, oJ7_fill_53178_f, lJ7_fill_53178_5_f, upd]
theorem zN_24 (zh : ZH) (kt ht : Nat → Int32) (th : Int32) (fo : Nat → Int64) (fd : Nat → UInt64) (p1 p2 p3 p4 : Int32) (hs : rX8_isIn p1 0 5 = 0 ↔ (¬ p1 = 0 ∧ ¬ p1 = 1 ∧ ¬ p1 = 2 ∧ ¬ p1 = 3 ∧ ¬ p1 = 4 ∧ ¬ p1 = 5)) : (rX8_thrown zh.size zh.il zh.ba zh.gs zh.ni zh.li zh.mi zh.nx zh.mv zh.on zh.al zh.nc zh.nl (oX8_count_nTh zh.size zh.il zh.ba zh.gs zh.ni zh.li zh.mi zh.nx zh.mv zh.on zh.al zh.nc zh.nl th p1)) = (rL_count zh.ni zh.li zh.mi zh.mv zh.nx zh.al zh.nc zh.nl zh.on zh.il zh.ba fo p1) := by
  by_cases h : rX8_isIn p1 0 5 = 0
  · have h1 := hs.mp h
    simp [rX8_thrown, oX8_count_nTh, rL_count, xX7_count, oX8_fails_nTh, jX8_count_15_0, h, h1]
  · have h1 : p1 = 0 ∨ p1 = 1 ∨ p1 = 2 ∨ p1 = 3 ∨ p1 = 4 ∨ p1 = 5 := by
      apply Classical.byContradiction
      intro h2
      exact h (hs.mpr (by simp only [not_or] at h2; exact h2))
    rcases h1 with rfl | rfl | rfl | rfl | rfl | rfl <;> simp [rX8_thrown, oX8_count_nTh, rL_count, xX7_count, oX8_fails_nTh, jX8_count_15_0] <;> decide +kernel
