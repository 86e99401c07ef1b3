/-! what the looks give -/
theorem zM {p : Int32} (h : xX7_needMask p = 0) : vp_in p 6 := by
  unfold xX7_needMask at h
  split at h
  · cases h
  · rename_i h1
    split at h
    · rename_i h2
      exact zin_f h1 h2 (by decide)
    · cases h
theorem zSc {p : Int32} (h : xX7_needSecret p = 0) : vp_in p 4 := by
  unfold xX7_needSecret at h
  split at h
  · cases h
  · rename_i h1
    split at h
    · rename_i h2
      exact zin_f h1 h2 (by decide)
    · cases h
theorem zPr {p : Int32} (h : xX7_needProp p = 0) : vp_in p 4 := by
  unfold xX7_needProp at h
  split at h
  · cases h
  · rename_i h1
    split at h
    · rename_i h2
      exact zin_f h1 h2 (by decide)
    · cases h
