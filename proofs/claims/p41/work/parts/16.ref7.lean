theorem s_abl_t {v : Int64} (h : ¬ lN 0 ≤ v) : s_abl v = -v := if_pos (Int64.not_le.mp h)
theorem s_abl_f {v : Int64} (h : lN 0 ≤ v) : s_abl v = v := if_neg (Int64.not_lt.mpr h)
