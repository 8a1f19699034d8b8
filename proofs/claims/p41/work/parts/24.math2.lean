/-! the class's areas are the reference's -/
theorem q_i_pos {d k : Int32} (hd : 0 ≤ d.toInt) (hk : 0 < k.toInt) : q_i d k = d / k := by
  unfold q_i q_fd
  rw [if_neg (fun q => by rw [q] at hk; exact absurd hk (by decide)), if_pos ((xor_I d k hk).mpr hd)]
theorem sq_pos {x : Int32} (h : rg x) : 0 ≤ (x * x).toInt := by
  obtain ⟨h1, h2⟩ := h
  have h3 : x.toInt * x.toInt ≤ 25000000 := by
    rcases Int.le_total 0 x.toInt with q | q
    · exact Int.le_trans (Int.mul_le_mul h2 h2 q (by omega)) (by decide)
    · have := Int.mul_le_mul (show -x.toInt ≤ 5000 by omega) (show -x.toInt ≤ 5000 by omega) (by omega) (by omega)
      rw [Int.neg_mul_neg] at this
      omega
  have h4 : 0 ≤ x.toInt * x.toInt := by
    rcases Int.le_total 0 x.toInt with q | q
    · exact Int.mul_nonneg q q
    · exact Int.mul_nonneg_of_nonpos_of_nonpos q q
  rw [fb_mulI (by omega) (by omega)]
  exact h4
theorem rg_neg {x : Int32} (h : rg x) : rg (-x) := by
  obtain ⟨h1, h2⟩ := h
  unfold rg
  rw [fb_negI (by omega)]
  omega
theorem pos_sum {x y : Int32} (hx : rg x) (hy : rg y) (h1 : nI 0 < x) (h2 : y < nI 0) : 0 < (x + -y).toInt := by
  have hz : (nI 0).toInt = 0 := rfl
  rw [Int32.lt_iff_toInt_lt, hz] at h1 h2
  obtain ⟨a1, a2⟩ := hx
  obtain ⟨b1, b2⟩ := hy
  have hn : (-y).toInt = -y.toInt := fb_negI (by omega)
  rw [fb_addI (by omega) (by omega), hn]
  omega
theorem i_tri {x : Int32} (h : ¬ nI 0 ≤ x) : x < nI 0 := Int32.not_le.mp h
theorem i_tri2 {x : Int32} (h : ¬ x ≤ nI 0) : nI 0 < x := Int32.not_le.mp h
theorem mx_a {x y : Int32} (h1 : nI 0 < x) (h2 : y < nI 0) : (if x < y then y else x) = x ∧ (if y < x then y else x) = y :=
  ⟨if_neg (fun q => absurd (Int32.lt_trans (Int32.lt_trans h1 q) h2) (Int32.lt_irrefl)), if_pos (Int32.lt_trans h2 h1)⟩
theorem mx_b {x y : Int32} (h1 : x < nI 0) (h2 : nI 0 < y) : (if x < y then y else x) = y ∧ (if y < x then y else x) = x :=
  ⟨if_pos (Int32.lt_trans h1 h2), if_neg (fun q => absurd (Int32.lt_trans (Int32.lt_trans h2 q) h1) (Int32.lt_irrefl))⟩
theorem pt_fwd {x y : Int32} (hx : rg x) (hy : rg y) : q_pt x y = s_part x y True := by
  unfold q_pt s_part
  by_cases c1 : nI 0 ≤ x ∧ nI 0 ≤ y
  · rw [if_pos c1, if_pos c1, if_pos trivial]
  · rw [if_neg c1, if_neg c1]
    by_cases c2 : x ≤ nI 0 ∧ y ≤ nI 0
    · rw [if_pos c2, if_pos c2, if_pos trivial]
    · rw [if_neg c2, if_neg c2]
      by_cases c3 : nI 0 < x
      · have c4 : y < nI 0 := i_tri (fun q => c1 ⟨Int32.le_of_lt c3, q⟩)
        rw [if_pos c3, if_pos trivial, (mx_a c3 c4).1, (mx_a c3 c4).2]
        exact q_i_pos (sq_pos hx) (pos_sum hx hy c3 c4)
      · have c5 : x ≤ nI 0 := Int32.not_lt.mp c3
        have c4 : nI 0 < y := i_tri2 (fun q => c2 ⟨c5, q⟩)
        have c6 : x < nI 0 := i_tri (fun q => c1 ⟨q, Int32.le_of_lt c4⟩)
        rw [if_neg c3, if_pos trivial, (mx_b c6 c4).1, (mx_b c6 c4).2]
        exact q_i_pos (sq_pos hy) (pos_sum hy hx c4 c6)
theorem neg_le0 {x : Int32} (h : rg x) : (nI 0 ≤ -x ↔ x ≤ nI 0) ∧ (-x ≤ nI 0 ↔ nI 0 ≤ x) ∧ (nI 0 < -x ↔ x < nI 0) ∧ (-x < nI 0 ↔ nI 0 < x) := by
  obtain ⟨h1, h2⟩ := h
  have hz : (nI 0).toInt = 0 := rfl
  have hn : (-x).toInt = -x.toInt := fb_negI (by omega)
  rw [Int32.le_iff_toInt_le, Int32.le_iff_toInt_le, Int32.le_iff_toInt_le, Int32.le_iff_toInt_le, Int32.lt_iff_toInt_lt, Int32.lt_iff_toInt_lt, Int32.lt_iff_toInt_lt, Int32.lt_iff_toInt_lt, hn, hz]
  omega
theorem pt_loop {x y : Int32} (hx : rg x) (hy : rg y) : q_pt (-x) (-y) = s_part x y False := by
  have hx2 := neg_le0 hx
  have hy2 := neg_le0 hy
  unfold q_pt s_part
  by_cases c1 : nI 0 ≤ x ∧ nI 0 ≤ y
  · rw [if_pos c1, if_neg (fun q => q)]
    by_cases c2 : nI 0 ≤ -x ∧ nI 0 ≤ -y
    · have e1 : x = nI 0 := Int32.le_antisymm (hx2.1.mp c2.1) c1.1
      have e2 : y = nI 0 := Int32.le_antisymm (hy2.1.mp c2.2) c1.2
      rw [if_pos c2, e1, e2]
      decide
    · rw [if_neg c2, if_pos ⟨hx2.2.1.mpr c1.1, hy2.2.1.mpr c1.2⟩]
  · rw [if_neg c1]
    by_cases c2 : x ≤ nI 0 ∧ y ≤ nI 0
    · rw [if_pos c2, if_neg (fun q => q), if_pos ⟨hx2.1.mpr c2.1, hy2.1.mpr c2.2⟩]
      exact (Int32.sub_eq_add_neg _ _).symm
    · rw [if_neg c2, if_neg (fun q => c2 ⟨hx2.1.mp q.1, hy2.1.mp q.2⟩), if_neg (fun q => c1 ⟨hx2.2.1.mp q.1, hy2.2.1.mp q.2⟩)]
      by_cases c3 : nI 0 < x
      · have c4 : y < nI 0 := i_tri (fun q => c1 ⟨Int32.le_of_lt c3, q⟩)
        have d3 := hx2.2.2.2.mpr c3
        have d4 := hy2.2.2.1.mpr c4
        rw [if_pos c3, if_neg (fun q => q), (mx_b d3 d4).1, (mx_b d3 d4).2, q_i_pos (sq_pos (rg_neg hy)) (pos_sum (rg_neg hy) (rg_neg hx) d4 d3), Int32.neg_neg, Int32.add_comm (-y) x]
      · have c5 : x ≤ nI 0 := Int32.not_lt.mp c3
        have c4 : nI 0 < y := i_tri2 (fun q => c2 ⟨c5, q⟩)
        have c6 : x < nI 0 := i_tri (fun q => c1 ⟨q, Int32.le_of_lt c4⟩)
        have d3 := hx2.2.2.1.mpr c6
        have d4 := hy2.2.2.2.mpr c4
        rw [if_neg c3, if_neg (fun q => q), (mx_a d3 d4).1, (mx_a d3 d4).2, q_i_pos (sq_pos (rg_neg hx)) (pos_sum (rg_neg hx) (rg_neg hy) d3 d4), Int32.neg_neg, Int32.add_comm (-x) y]
theorem fa_fwd (p : Nat → Int32) (h : ∀ k, k ≤ 20 → rg (s_df p k)) : ∀ m, m ≤ 20 → q_fa p m = s_pa p True m
  | 0, _ => rfl
  | m + 1, hm => by unfold q_fa s_pa; rw [fa_fwd p h m (by omega), pt_fwd (h m (by omega)) (h (m + 1) hm)]
theorem fa_loop (p : Nat → Int32) (h : ∀ k, k ≤ 20 → rg (s_df p k)) : ∀ m, m ≤ 20 → q_lo p m = s_pa p False m
  | 0, _ => rfl
  | m + 1, hm => by unfold q_lo s_pa; rw [fa_loop p h m (by omega), pt_loop (h m (by omega)) (h (m + 1) hm)]
theorem ar_in (p : Nat → Int32) (h : ∀ k, k ≤ 20 → rg (s_df p k)) : ∀ m : Nat, m ≤ 20 → -(10000 * (m : Int)) ≤ (s_ar p m).toInt ∧ (s_ar p m).toInt ≤ 10000 * (m : Int)
  | 0, _ => by unfold s_ar; decide
  | m + 1, hm => by
    obtain ⟨h1, h2⟩ := ar_in p h m (by omega)
    obtain ⟨a1, a2⟩ := h m (by omega)
    obtain ⟨b1, b2⟩ := h (m + 1) hm
    unfold s_ar
    have e1 : (s_df p m + s_df p (m + 1)).toInt = (s_df p m).toInt + (s_df p (m + 1)).toInt := fb_addI (by omega) (by omega)
    rw [fb_addI (by rw [e1]; omega) (by rw [e1]; omega), e1]
    omega
theorem mp_eq (p : Nat → Int32) (h : ∀ k, k ≤ 20 → rg (s_df p k)) : q_i (s_ar p 20 * nI 1000) (nI 40) = (s_quo ((s_ar p 20).toInt64 * (1000 : Int64)) (40 : Int64)).toInt32 := by
  obtain ⟨h1, h2⟩ := ar_in p h 20 (by omega)
  have k1 : (nI 1000).toInt = 1000 := rfl
  have k2 : (1000 : Int64).toInt = 1000 := rfl
  have e1 : (s_ar p 20 * nI 1000).toInt = (s_ar p 20).toInt * 1000 := by rw [fb_mulI (by rw [k1]; omega) (by rw [k1]; omega), k1]
  refine (quo_I64 _ (s_ar p 20 * nI 1000) (nI 40) ?_ (by decide)).symm
  rw [fb_mulL (by rw [k2, t64]; omega) (by rw [k2, t64]; omega), k2, t64, e1]
