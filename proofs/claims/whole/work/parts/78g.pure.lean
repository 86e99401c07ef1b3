/-! a night begins: what is held after -/
theorem zCpA (f g : Nat → Int32) : upd (upd (upd (upd g 0 (f 0)) 1 (f 1)) 2 (f 2)) 3 (f 3) = va_cpy f g 0 0 4 := by
  funext j
  match j with
  | 0 => simp [upd, va_cpy]
  | 1 => simp [upd, va_cpy]
  | 2 => simp [upd, va_cpy]
  | 3 => simp [upd, va_cpy]
  | n + 4 =>
    simp [upd, va_cpy]
    intro h
    omega
theorem zCpB {f g : Nat → Int32} (h : ∀ j : Nat, 4 ≤ j → f j = g j) : va_cpy f g 0 0 4 = f := by
  funext j
  match j with
  | 0 => simp [va_cpy]
  | 1 => simp [va_cpy]
  | 2 => simp [va_cpy]
  | 3 => simp [va_cpy]
  | n + 4 => simp [va_cpy, h (n + 4) (by omega)]
theorem zB_9 (zh : ZH) (kt ht : Nat → Int32) (th : Int32) (fo : Nat → Int64) (fd : Nat → UInt64) (xs : Nat → Int32) (i : Int32) (hz1 : va_cpy zh.kb0 zh.kn 0 0 4 = zh.kb0) (hz2 : va_cpy zh.hb0 zh.ho 0 0 4 = zh.hb0) : (zm_9 zh (zMof zh kt ht th) fo fd xs i) = zMof (zh_9 zh (zMof zh kt ht th) fo fd xs i) ((zm_9 zh (zMof zh kt ht th) fo fd xs i)).mKt ((zm_9 zh (zMof zh kt ht th) fo fd xs i)).mHt ((zm_9 zh (zMof zh kt ht th) fo fd xs i)).nTh := by
  by_cases h0 : rX8_isIn (xs ((i + (1 : Int32))).toNatClampNeg) 1 100 = 0 <;> by_cases h1 : zh.ni = 1 <;> by_cases h2 : zh.size = 0 <;> by_cases h3 : zh.ni = 0
  all_goals simp [zm_9, zh_9, oL_night_ni, oL_night_li, oL_night_mi, oL_night_mv, oL_night_nx, oL_night_on, oL_night_kn, oL_night_ho, xX7_night, oX7_night_ho, oX2_copyFrom_fh, xX7_needNoPlay, oX7_night_kn, oX2_copyFrom_fk, oX7_night_on, oX7_night_nx, oX7_night_mv, oX7_night_mi, oX7_night_li, oX7_night_ni, oX8_night_nNs, oX8_night_nLi, oX8_night_nMi, oX8_night_nNx, oX8_night_nMv, oX8_night_nOn, oX8_night_nTh, oX8_night_mKn, oX8_night_mHa, rX8_fails, jX8_night_37_0, oX8_fails_nTh, lX8_night_76_nTh, lX8_night_76_nNs, lX8_night_76_nLi, lX8_night_76_nMi, lX8_night_76_nNx, lX8_night_76_nMv, lX8_night_76_nOn, lX8_night_76_mKn, lX8_night_76_mHa, oX2_copyFrom_fk, oX2_copyFrom_fh, zMof, zqMask, zqSecret, zqProp, zqRange, zqIn, zKn, zHo, zCmp, zU0, zUpS, zUpK, zMof_nSt, zMof_nIl, zMof_nBa, zMof_nGa, zMof_nNs, zMof_nLi, zMof_nMi, zMof_nNx, zMof_nMv, zMof_nOn, zMof_nLa, zMof_nCl, zMof_nLn, zMof_nTh, zMof_mFk, zMof_mFh, zMof_mKi, zMof_mOn, zMof_mOt, zMof_mWh, zMof_mLe, zMof_mWi, zMof_mPr, zMof_mPl, zMof_mPt, zMof_mKn, zMof_mHa, zMof_mKt, zMof_mHt, ZM.nSt_of, ZM.nIl_of, ZM.nBa_of, ZM.nGa_of, ZM.nNs_of, ZM.nLi_of, ZM.nMi_of, ZM.nNx_of, ZM.nMv_of, ZM.nOn_of, ZM.nLa_of, ZM.nCl_of, ZM.nLn_of, ZM.nTh_of, ZM.mFk_of, ZM.mFh_of, ZM.mKi_of, ZM.mOn_of, ZM.mOt_of, ZM.mWh_of, ZM.mLe_of, ZM.mWi_of, ZM.mPr_of, ZM.mPl_of, ZM.mPt_of, ZM.mKn_of, ZM.mHa_of, ZM.mKt_of, ZM.mHt_of, ZH.ni_of, ZH.li_of, ZH.mi_of, ZH.mv_of, ZH.nx_of, ZH.al_of, ZH.nc_of, ZH.nl_of, ZH.on_of, ZH.il_of, ZH.ba_of, ZH.size_of, ZH.ki_of, ZH.fi_of, ZH.se_of, ZH.th_of, ZH.kT_of, ZH.hT_of, ZH.kn_of, ZH.ho_of, ZH.kb0_of, ZH.hb0_of, ZH.gs_of, ZH.le_of, ZH.wi_of, ZH.pr_of, ZH.tp_of, ZH.pt_of, ZH.fr_of, ZH.fb_of, h0, h1, h2, h3, hz1, hz2, zCpA]

