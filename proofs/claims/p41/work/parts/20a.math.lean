/-! quotients -/
theorem t64 (x : Int32) : x.toInt64.toInt = x.toInt := Int32.toInt_toInt64 x
/-- a quotient rounded down, over what the machine divides by -/
def fl (d k : Int) : Int := if d.tmod k < 0 then d.tdiv k - 1 else d.tdiv k
theorem fl_eq (d : Int) {k : Int} (h : 0 < k) : fl d k = d / k := by
  have h1 := Int.mul_tdiv_add_tmod d k
  have h2 := Int.tmod_lt_of_pos d h
  have h3 := Int.lt_tmod_of_pos d h
  unfold fl
  split
  · exact (((Int.ediv_emod_unique (a := d) (r := d.tmod k + k) (q := d.tdiv k - 1) h).mpr ⟨by rw [Int.mul_sub, Int.mul_one]; omega, by omega, by omega⟩).1).symm
  · exact (((Int.ediv_emod_unique (a := d) (r := d.tmod k) (q := d.tdiv k) h).mpr ⟨by omega, by omega, by omega⟩).1).symm
theorem ne_m1 {y : Int32} (h : 0 < y.toInt) : y ≠ -1 := fun e => by rw [e] at h; exact absurd h (by decide)
theorem ne_m1L {y : Int64} (h : 0 < y.toInt) : y ≠ -1 := fun e => by rw [e] at h; exact absurd h (by decide)
theorem rem_I (x y : Int32) (h : 0 < y.toInt) : (x / y).toInt = x.toInt.tdiv y.toInt ∧ (x / y * y).toInt = x.toInt - x.toInt.tmod y.toInt := by
  have h0 : (x / y).toInt = x.toInt.tdiv y.toInt := Int32.toInt_div_of_ne_right _ _ (ne_m1 h)
  refine ⟨h0, ?_⟩
  have h1 := Int.mul_tdiv_add_tmod x.toInt y.toInt
  have h2 := Int.tmod_lt_of_pos x.toInt h
  have h3 := Int.lt_tmod_of_pos x.toInt h
  have h4 := fb_rng x
  have h5 := fb_rng y
  have h6 : x.toInt.tdiv y.toInt * y.toInt = x.toInt - x.toInt.tmod y.toInt := by rw [Int.mul_comm]; omega
  have h7 : 0 ≤ x.toInt → 0 ≤ x.toInt.tmod y.toInt := fun q => Int.tmod_nonneg _ q
  have h8 : x.toInt ≤ 0 → x.toInt.tmod y.toInt ≤ 0 := fun q => by
    have h9 := Int.tmod_nonneg y.toInt (show 0 ≤ -x.toInt by omega)
    rw [Int.neg_tmod] at h9
    omega
  rw [Int32.toInt_mul, h0, h6]
  refine fb_bmod ?_ ?_ <;> rcases Int.le_total 0 x.toInt with q | q
  · have := h7 q; omega
  · have := h8 q; omega
  · have := h7 q; omega
  · have := h8 q; omega
theorem rem_L (x y : Int64) (h : 0 < y.toInt) : (x / y).toInt = x.toInt.tdiv y.toInt ∧ (x / y * y).toInt = x.toInt - x.toInt.tmod y.toInt ∧ (x - x / y * y).toInt = x.toInt.tmod y.toInt := by
  have h0 : (x / y).toInt = x.toInt.tdiv y.toInt := Int64.toInt_div_of_ne_right _ _ (ne_m1L h)
  have h1 := Int.mul_tdiv_add_tmod x.toInt y.toInt
  have h2 := Int.tmod_lt_of_pos x.toInt h
  have h3 := Int.lt_tmod_of_pos x.toInt h
  have h4 := fb_rngL x
  have h5 := fb_rngL y
  have h6 : x.toInt.tdiv y.toInt * y.toInt = x.toInt - x.toInt.tmod y.toInt := by rw [Int.mul_comm]; omega
  have h7 : 0 ≤ x.toInt → 0 ≤ x.toInt.tmod y.toInt := fun q => Int.tmod_nonneg _ q
  have h8 : x.toInt ≤ 0 → x.toInt.tmod y.toInt ≤ 0 := fun q => by
    have h9 := Int.tmod_nonneg y.toInt (show 0 ≤ -x.toInt by omega)
    rw [Int.neg_tmod] at h9
    omega
  have h10 : (x / y * y).toInt = x.toInt - x.toInt.tmod y.toInt := by
    rw [Int64.toInt_mul, h0, h6]
    refine fb_bmodL ?_ ?_ <;> rcases Int.le_total 0 x.toInt with q | q
    · have := h7 q; omega
    · have := h8 q; omega
    · have := h7 q; omega
    · have := h8 q; omega
  refine ⟨h0, h10, ?_⟩
  rw [Int64.toInt_sub, h10, show x.toInt - (x.toInt - x.toInt.tmod y.toInt) = x.toInt.tmod y.toInt by omega]
  exact fb_bmodL (by omega) (by omega)
theorem tdiv_in (d k : Int) (h : 0 < k) : (0 ≤ d → 0 ≤ d.tdiv k ∧ d.tdiv k ≤ d) ∧ (d ≤ 0 → d ≤ d.tdiv k ∧ d.tdiv k ≤ 0) := by
  constructor
  · intro q
    rw [Int.tdiv_eq_ediv_of_nonneg q]
    exact ⟨Int.ediv_nonneg q (by omega), Int.ediv_le_self _ q⟩
  · intro q
    have h1 : (-d).tdiv k = -(d.tdiv k) := Int.neg_tdiv d k
    have h2 := Int.ediv_nonneg (show 0 ≤ -d by omega) (show 0 ≤ k by omega)
    have h3 := Int.ediv_le_self k (show 0 ≤ -d by omega)
    rw [← Int.tdiv_eq_ediv_of_nonneg (show 0 ≤ -d by omega), h1] at h2 h3
    omega
theorem xor_I (x y : Int32) (h : 0 < y.toInt) : (nI 0 ≤ x ^^^ y) ↔ 0 ≤ x.toInt := by
  rw [Int32.le_iff_toInt_le, show (nI 0).toInt = 0 from rfl]
  have a1 : (x ^^^ y).toInt = (x.toBitVec ^^^ y.toBitVec).toInt := rfl
  have b1 := BitVec.msb_eq_toInt (x := x.toBitVec ^^^ y.toBitVec)
  have b2 := BitVec.msb_eq_toInt (x := x.toBitVec)
  have b3 := BitVec.msb_eq_toInt (x := y.toBitVec)
  rw [BitVec.msb_xor] at b1
  have h2 : ¬ y.toBitVec.toInt < 0 := by show ¬ y.toInt < 0; omega
  rw [decide_eq_false h2] at b3
  rw [b3, Bool.xor_false, b2] at b1
  rw [a1]
  have e := decide_eq_decide.mp b1
  show _ ↔ 0 ≤ x.toBitVec.toInt
  omega
theorem xor_L (x y : Int64) (h : 0 < y.toInt) : (lN 0 ≤ x ^^^ y) ↔ 0 ≤ x.toInt := by
  rw [Int64.le_iff_toInt_le, show (lN 0).toInt = 0 from rfl]
  have a1 : (x ^^^ y).toInt = (x.toBitVec ^^^ y.toBitVec).toInt := rfl
  have b1 := BitVec.msb_eq_toInt (x := x.toBitVec ^^^ y.toBitVec)
  have b2 := BitVec.msb_eq_toInt (x := x.toBitVec)
  have b3 := BitVec.msb_eq_toInt (x := y.toBitVec)
  rw [BitVec.msb_xor] at b1
  have h2 : ¬ y.toBitVec.toInt < 0 := by show ¬ y.toInt < 0; omega
  rw [decide_eq_false h2] at b3
  rw [b3, Bool.xor_false, b2] at b1
  rw [a1]
  have e := decide_eq_decide.mp b1
  show _ ↔ 0 ≤ x.toBitVec.toInt
  omega
def q_fd (x y : Int32) : Int32 := if nI 0 ≤ x ^^^ y then x / y else if x / y * y = x then x / y else x / y - nI 1
def q_fl (x y : Int64) : Int64 := if lN 0 ≤ x ^^^ y then x / y else if x / y * y = x then x / y else x / y - lN 1
def q_i (x y : Int32) : Int32 := if y = nI 0 then nI 0 else q_fd x y
def q_l (x y : Int64) : Int64 := if y = lN 0 then lN 0 else q_fl x y
theorem rem_sign (d k : Int) (h : 0 < k) : (0 ≤ d → 0 ≤ d.tmod k) ∧ (d ≤ 0 → d.tmod k ≤ 0) := by
  refine ⟨fun q => Int.tmod_nonneg _ q, fun q => ?_⟩
  have h9 := Int.tmod_nonneg k (show 0 ≤ -d by omega)
  rw [Int.neg_tmod] at h9
  omega
theorem q_fd_fl (x y : Int32) (h : 0 < y.toInt) : (q_fd x y).toInt = fl x.toInt y.toInt := by
  obtain ⟨h1, h2⟩ := rem_I x y h
  have h3 := rem_sign x.toInt y.toInt h
  have h4 := tdiv_in x.toInt y.toInt h
  have h5 := fb_rng x
  have h6 := Int.mul_tdiv_add_tmod x.toInt y.toInt
  unfold q_fd fl
  by_cases c1 : nI 0 ≤ x ^^^ y
  · have c2 := (xor_I x y h).mp c1
    rw [if_pos c1, if_neg (by have := h3.1 c2; omega), h1]
  · have c2 : x.toInt < 0 := by have := mt (xor_I x y h).mpr c1; omega
    rw [if_neg c1]
    by_cases c3 : x / y * y = x
    · have c4 := congrArg Int32.toInt c3
      rw [h2] at c4
      rw [if_pos c3, if_neg (by omega), h1]
    · have c4 : ¬ (x / y * y).toInt = x.toInt := fun q => c3 (Int32.toInt_inj.mp q)
      rw [h2] at c4
      have c5 := h3.2 (by omega)
      rw [if_neg c3, if_pos (by omega)]
      have c6 : -2147483648 < x.toInt.tdiv y.toInt := by
        rcases Int.lt_or_le x.toInt (x.toInt.tdiv y.toInt) with z | z
        · omega
        · have z2 := (h4.2 (by omega)).1
          have z3 : x.toInt.tdiv y.toInt = x.toInt := by omega
          rw [z3] at h6
          have z4 : y.toInt * x.toInt ≤ 1 * x.toInt := Int.mul_le_mul_of_nonpos_right (by omega) (by omega)
          omega
      have z5 := (h4.2 (by omega)).2
      rw [fb_subI (by rw [h1]; have : (nI 1).toInt = 1 := rfl; omega) (by rw [h1]; have : (nI 1).toInt = 1 := rfl; omega), h1]
      rfl
def s_quo0 (x y : Int64) : Int64 := x / y - (if x - x / y * y < lN 0 then lN 1 else lN 0)
theorem s_quo0_fl (x y : Int64) (h : 0 < y.toInt) : (s_quo0 x y).toInt = fl x.toInt y.toInt := by
  obtain ⟨h1, h2, h2b⟩ := rem_L x y h
  have h3 := rem_sign x.toInt y.toInt h
  have h4 := tdiv_in x.toInt y.toInt h
  have h5 := fb_rngL x
  have h6 := Int.mul_tdiv_add_tmod x.toInt y.toInt
  have hz : (lN 0).toInt = 0 := rfl
  have ho : (lN 1).toInt = 1 := rfl
  unfold s_quo0 fl
  by_cases c1 : x - x / y * y < lN 0
  · have c2 : x.toInt.tmod y.toInt < 0 := by have := Int64.lt_iff_toInt_lt.mp c1; rw [h2b, hz] at this; exact this
    rw [if_pos c1, if_pos c2]
    have c3 : x.toInt < 0 := by
      rcases Int.lt_or_le x.toInt 0 with z | z
      · exact z
      · have := h3.1 z; omega
    have c6 : -9223372036854775808 < x.toInt.tdiv y.toInt := by
      rcases Int.lt_or_le x.toInt (x.toInt.tdiv y.toInt) with z | z
      · omega
      · have z2 := (h4.2 (by omega)).1
        have z3 : x.toInt.tdiv y.toInt = x.toInt := by omega
        rw [z3] at h6
        have z4 : y.toInt * x.toInt ≤ 1 * x.toInt := Int.mul_le_mul_of_nonpos_right (by omega) (by omega)
        omega
    have z5 := (h4.2 (by omega)).2
    rw [fb_subL (by rw [h1]; omega) (by rw [h1]; omega), h1, ho]
  · have c2 : ¬ x.toInt.tmod y.toInt < 0 := by have := mt Int64.lt_iff_toInt_lt.mpr c1; rw [h2b, hz] at this; exact this
    rw [if_neg c1, if_neg c2, show x / y - lN 0 = x / y from Int64.sub_zero _, h1]
theorem q_fl_fl (x y : Int64) (h : 0 < y.toInt) : q_fl x y = s_quo0 x y := by
  obtain ⟨h1, h2, h2b⟩ := rem_L x y h
  have h3 := rem_sign x.toInt y.toInt h
  have hz : (lN 0).toInt = 0 := rfl
  unfold q_fl s_quo0
  by_cases c1 : lN 0 ≤ x ^^^ y
  · have c2 := (xor_L x y h).mp c1
    rw [if_pos c1, if_neg (fun q => by have := Int64.lt_iff_toInt_lt.mp q; rw [h2b, hz] at this; have := h3.1 c2; omega)]
    exact (Int64.sub_zero _).symm
  · have c2 : x.toInt < 0 := by have := mt (xor_L x y h).mpr c1; omega
    rw [if_neg c1]
    by_cases c3 : x / y * y = x
    · have c4 := congrArg Int64.toInt c3
      rw [h2] at c4
      rw [if_pos c3, if_neg (fun q => by have := Int64.lt_iff_toInt_lt.mp q; rw [h2b, hz] at this; omega)]
      exact (Int64.sub_zero _).symm
    · have c4 : ¬ (x / y * y).toInt = x.toInt := fun q => c3 (Int64.toInt_inj.mp q)
      rw [h2] at c4
      have c5 := h3.2 (by omega)
      rw [if_neg c3, if_pos (Int64.lt_iff_toInt_lt.mpr (by rw [h2b, hz]; omega))]
theorem quo_L (x y : Int64) (h : 0 < y.toInt) : q_l x y = s_quo x y := by
  unfold q_l
  rw [if_neg (fun q => by rw [q] at h; exact absurd h (by decide)), q_fl_fl x y h]
  rfl
theorem quo_I (x y : Int32) (h : 0 < y.toInt) : (s_quo x.toInt64 y.toInt64).toInt32 = q_i x y := by
  unfold q_i
  rw [if_neg (fun q => by rw [q] at h; exact absurd h (by decide))]
  apply Int32.toInt_inj.mp
  have h1 : (s_quo x.toInt64 y.toInt64).toInt = (q_fd x y).toInt := by
    rw [q_fd_fl x y h, show s_quo x.toInt64 y.toInt64 = s_quo0 x.toInt64 y.toInt64 from rfl, s_quo0_fl _ _ (by rw [t64]; exact h), t64, t64]
  have h2 := fb_rng (q_fd x y)
  rw [Int64.toInt_toInt32, h1]
  exact fb_bmod h2.1 h2.2
theorem quo_I64 (z : Int64) (x y : Int32) (hz : z.toInt = x.toInt) (h : 0 < y.toInt) : (s_quo z y.toInt64).toInt32 = q_i x y := by
  rw [show z = x.toInt64 from Int64.toInt_inj.mp (by rw [hz, t64])]
  exact quo_I x y h
theorem okC_iff {f : Nat → Int32} {cn : Nat} {v : Int32} (hcn : cn ≤ 10) (hc : f 61 = nI cn) : (nI 0 ≤ v ∧ v < f 61) ↔ s_okC f v := by
  constructor
  · rintro ⟨h1, h2⟩
    obtain ⟨j, hj, e⟩ := nI_of (Int32.not_lt.mpr h1)
    rw [hc, e] at h2
    have h3 := (nI_ltI hj (by omega)).mp h2
    refine ⟨h1, ?_⟩
    rw [hc, e, pk_sub (by omega)]
    exact nI_le (by omega) (by omega)
  · intro h
    obtain ⟨j, hj, e⟩ := in_card hcn hc h
    refine ⟨h.1, ?_⟩
    rw [hc, e]
    exact nI_lt hj (by omega)
