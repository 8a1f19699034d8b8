/-! areas: forward less loops -/
def v_ar (p : Nat → Int32) : Nat → Int32
  | 0 => nI 0
  | k + 1 => v_ar p k + (if k = 0 ∨ k = 20 then s_df p k else nI 2 * s_df p k)
def v_mo (p : Nat → Int32) : Nat → Int32
  | 0 => nI 0
  | k + 1 => if v_mo p k < p k then p k else v_mo p k
theorem d_dbl (d : Int32) : nI 2 * d = d + d := by
  have h : nI 2 = (1 : Int32) + 1 := by decide
  rw [h, Int32.add_mul, Int32.one_mul]
theorem var_1 {p : Nat → Int32} : ∀ k, k ≤ 19 → v_ar p (k + 1) = s_ar p k + s_df p k
  | 0, _ => by
    show nI 0 + (if 0 = 0 ∨ 0 = 20 then s_df p 0 else nI 2 * s_df p 0) = nI 0 + s_df p 0
    rw [if_pos (Or.inl rfl)]
  | k + 1, h => by
    have ih := var_1 (p := p) k (by omega)
    show v_ar p (k + 1) + (if k + 1 = 0 ∨ k + 1 = 20 then s_df p (k + 1) else nI 2 * s_df p (k + 1)) = s_ar p k + (s_df p k + s_df p (k + 1)) + s_df p (k + 1)
    rw [if_neg (by omega), ih, d_dbl]
    simp only [Int32.add_assoc]
theorem var_eq {p : Nat → Int32} : v_ar p 21 = s_ar p 20 := by
  have h := var_1 (p := p) 19 (by omega)
  show v_ar p 20 + (if 20 = 0 ∨ 20 = 20 then s_df p 20 else nI 2 * s_df p 20) = s_ar p 19 + (s_df p 19 + s_df p 20)
  rw [if_pos (Or.inr rfl), h, Int32.add_assoc]
theorem dv_pos {a b : Int32} (ha : 0 ≤ a.toInt) (hb : 0 < b.toInt) : (a / b).toInt = a.toInt / b.toInt := by
  rw [(rem_I a b hb).1, Int.tdiv_eq_ediv_of_nonneg ha]
theorem sq_split {X Y : Int} (hX : 0 < X) (hY : 0 < Y) : X * X / (X + Y) - Y * Y / (X + Y) = X - Y := by
  have h : X * X = Y * Y + (X - Y) * (X + Y) := by
    rw [Int.sub_mul, Int.mul_add, Int.mul_add, Int.mul_comm Y X]
    omega
  have h2 : X * X / (X + Y) = Y * Y / (X + Y) + (X - Y) := by
    rw [h, Int.add_mul_ediv_right _ _ (by omega)]
  omega
theorem sq_le {X Y : Int} (hX : 0 ≤ X) (hY : 0 < Y) : 0 ≤ X * X / (X + Y) ∧ X * X / (X + Y) ≤ X :=
  ⟨Int.ediv_nonneg (Int.mul_nonneg hX hX) (by omega), Int.ediv_le_of_le_mul (by omega) (Int.mul_le_mul_of_nonneg_left (by omega) hX)⟩
theorem sq_in {x : Int32} (h : rg x) : (x * x).toInt = x.toInt * x.toInt ∧ 0 ≤ x.toInt * x.toInt := by
  obtain ⟨h1, h2⟩ := h
  have hm := mul_ab (a := x.toInt) (b := x.toInt) (A := 5000) (B := 5000) (by omega) (by omega)
  have h0 : 0 ≤ x.toInt * x.toInt := by
    rcases Int.le_total 0 x.toInt with c | c
    · exact Int.mul_nonneg c c
    · exact Int.mul_nonneg_of_nonpos_of_nonpos c c
  exact ⟨fb_mulI (by omega) (by omega), h0⟩
/-- x above 0, y below 0 -/
theorem sq_pair {x y : Int32} (hx : rg x) (hy : rg y) (h1 : nI 0 < x) (h2 : y < nI 0) : (0 ≤ (x * x / (x + -y)).toInt ∧ (x * x / (x + -y)).toInt ≤ 5000) ∧ (0 ≤ (-y * -y / (x + -y)).toInt ∧ (-y * -y / (x + -y)).toInt ≤ 5000) ∧ (x * x / (x + -y)).toInt - (-y * -y / (x + -y)).toInt = x.toInt + y.toInt := by
  have z0 : (nI 0).toInt = 0 := rfl
  have q1 := Int32.lt_iff_toInt_lt.mp h1
  have q2 := Int32.lt_iff_toInt_lt.mp h2
  rw [z0] at q1 q2
  have hny := rg_neg hy
  obtain ⟨x1, x2⟩ := id hx
  obtain ⟨y1, y2⟩ := id hy
  have en : (-y).toInt = -y.toInt := fb_negI (by omega)
  have es : (x + -y).toInt = x.toInt + -y.toInt := by rw [fb_addI (by rw [en]; omega) (by rw [en]; omega), en]
  obtain ⟨a1, a2⟩ := sq_in hx
  obtain ⟨b1, b2⟩ := sq_in hny
  rw [en] at b1 b2
  have d1 : (x * x / (x + -y)).toInt = x.toInt * x.toInt / (x.toInt + -y.toInt) := by rw [dv_pos (by rw [a1]; exact a2) (by rw [es]; omega), a1, es]
  have d2 : (-y * -y / (x + -y)).toInt = -y.toInt * -y.toInt / (x.toInt + -y.toInt) := by rw [dv_pos (by rw [b1]; exact b2) (by rw [es]; omega), b1, es]
  have s1 := sq_split (X := x.toInt) (Y := -y.toInt) q1 (by omega)
  have s2 := sq_le (X := x.toInt) (Y := -y.toInt) (by omega) (by omega)
  have s3 := sq_le (X := -y.toInt) (Y := x.toInt) (by omega) (by omega)
  rw [Int.add_comm (-y.toInt) x.toInt] at s3
  rw [d1, d2]
  omega
theorem part_ok {x y : Int32} (hx : rg x) (hy : rg y) : (0 ≤ (s_part x y True).toInt ∧ (s_part x y True).toInt ≤ 10000) ∧ (0 ≤ (s_part x y False).toInt ∧ (s_part x y False).toInt ≤ 10000) ∧ (s_part x y True).toInt - (s_part x y False).toInt = x.toInt + y.toInt := by
  obtain ⟨x1, x2⟩ := id hx
  obtain ⟨y1, y2⟩ := id hy
  have z0 : (nI 0).toInt = 0 := rfl
  by_cases h1 : nI 0 ≤ x ∧ nI 0 ≤ y
  · have t1 : s_part x y True = x + y := by unfold s_part; rw [if_pos h1, if_pos trivial]
    have t2 : s_part x y False = nI 0 := by unfold s_part; rw [if_pos h1, if_neg (fun q => q)]
    have a1 := Int32.le_iff_toInt_le.mp h1.1
    have a2 := Int32.le_iff_toInt_le.mp h1.2
    rw [t1, t2, z0, fb_addI (by omega) (by omega)]
    rw [z0] at a1 a2
    omega
  · by_cases h2 : x ≤ nI 0 ∧ y ≤ nI 0
    · have t1 : s_part x y True = nI 0 := by unfold s_part; rw [if_neg h1, if_pos h2, if_pos trivial]
      have t2 : s_part x y False = -x - y := by unfold s_part; rw [if_neg h1, if_pos h2, if_neg (fun q => q)]
      have a1 := Int32.le_iff_toInt_le.mp h2.1
      have a2 := Int32.le_iff_toInt_le.mp h2.2
      rw [z0] at a1 a2
      have e1 : (-x).toInt = -x.toInt := fb_negI (by omega)
      have e2 : (-x - y).toInt = -x.toInt - y.toInt := by rw [fb_subI (by rw [e1]; omega) (by rw [e1]; omega), e1]
      rw [t1, t2, z0, e2]
      omega
    · by_cases h3 : nI 0 < x
      · have hy0 : y < nI 0 := i_tri (fun q => h1 ⟨Int32.le_of_lt h3, q⟩)
        have t1 : s_part x y True = x * x / (x + -y) := by unfold s_part; rw [if_neg h1, if_neg h2, if_pos h3, if_pos trivial]
        have t2 : s_part x y False = -y * -y / (x + -y) := by unfold s_part; rw [if_neg h1, if_neg h2, if_pos h3, if_neg (fun q => q)]
        obtain ⟨c1, c2, c3⟩ := sq_pair hx hy h3 hy0
        rw [t1, t2]
        omega
      · have hx0 : x ≤ nI 0 := Int32.not_lt.mp h3
        have hy0 : nI 0 < y := i_tri2 (fun q => h2 ⟨hx0, q⟩)
        have hx1 : x < nI 0 := i_tri (fun q => h1 ⟨q, Int32.le_of_lt hy0⟩)
        have t1 : s_part x y True = y * y / (y + -x) := by unfold s_part; rw [if_neg h1, if_neg h2, if_neg h3, if_pos trivial]
        have t2 : s_part x y False = -x * -x / (y + -x) := by unfold s_part; rw [if_neg h1, if_neg h2, if_neg h3, if_neg (fun q => q)]
        obtain ⟨c1, c2, c3⟩ := sq_pair hy hx hy0 hx1
        rw [t1, t2]
        omega
theorem pa_sum {p : Nat → Int32} (h : ∀ k, k ≤ 20 → rg (s_df p k)) : ∀ m : Nat, m ≤ 20 → (0 ≤ (s_pa p True m).toInt ∧ (s_pa p True m).toInt ≤ 10000 * (m : Int)) ∧ (0 ≤ (s_pa p False m).toInt ∧ (s_pa p False m).toInt ≤ 10000 * (m : Int)) ∧ (s_pa p True m).toInt - (s_pa p False m).toInt = (s_ar p m).toInt
  | 0, _ => by
    have z0 : (nI 0).toInt = 0 := rfl
    show (0 ≤ (nI 0).toInt ∧ (nI 0).toInt ≤ 10000 * ((0 : Nat) : Int)) ∧ (0 ≤ (nI 0).toInt ∧ (nI 0).toInt ≤ 10000 * ((0 : Nat) : Int)) ∧ (nI 0).toInt - (nI 0).toInt = (nI 0).toInt
    rw [z0]
    omega
  | m + 1, hm => by
    obtain ⟨⟨a1, a2⟩, ⟨b1, b2⟩, c1⟩ := pa_sum h m (by omega)
    obtain ⟨⟨u1, u2⟩, ⟨v1, v2⟩, w1⟩ := part_ok (h m (by omega)) (h (m + 1) (by omega))
    obtain ⟨r1, r2⟩ := ar_in p h m (by omega)
    obtain ⟨d1, d2⟩ := h m (by omega)
    obtain ⟨g1, g2⟩ := h (m + 1) (by omega)
    have e1 : (s_pa p True (m + 1)).toInt = (s_pa p True m).toInt + (s_part (s_df p m) (s_df p (m + 1)) True).toInt := fb_addI (by omega) (by omega)
    have e2 : (s_pa p False (m + 1)).toInt = (s_pa p False m).toInt + (s_part (s_df p m) (s_df p (m + 1)) False).toInt := fb_addI (by omega) (by omega)
    have e3 : (s_df p m + s_df p (m + 1)).toInt = (s_df p m).toInt + (s_df p (m + 1)).toInt := fb_addI (by omega) (by omega)
    have e4 : (s_ar p (m + 1)).toInt = (s_ar p m).toInt + ((s_df p m).toInt + (s_df p (m + 1)).toInt) := by
      show (s_ar p m + (s_df p m + s_df p (m + 1))).toInt = _
      rw [fb_addI (by rw [e3]; omega) (by rw [e3]; omega), e3]
    rw [e1, e2, e4]
    omega
theorem apart_0 {p : Nat → Int32} (h : ∀ k, k ≤ 20 → rg (s_df p k)) : s_pa p True 20 - s_pa p False 20 - s_ar p 20 = nI 0 := by
  obtain ⟨⟨a1, a2⟩, ⟨b1, b2⟩, c1⟩ := pa_sum h 20 (by omega)
  obtain ⟨r1, r2⟩ := ar_in p h 20 (by omega)
  have z0 : (nI 0).toInt = 0 := rfl
  have e1 : (s_pa p True 20 - s_pa p False 20).toInt = (s_pa p True 20).toInt - (s_pa p False 20).toInt := fb_subI (by omega) (by omega)
  apply Int32.toInt_inj.mp
  rw [fb_subI (by rw [e1]; omega) (by rw [e1]; omega), e1, z0]
  omega
theorem pa_nn {p : Nat → Int32} (h : ∀ k, k ≤ 20 → rg (s_df p k)) : nI 0 ≤ s_pa p True 20 ∧ nI 0 ≤ s_pa p False 20 := by
  obtain ⟨⟨a1, -⟩, ⟨b1, -⟩, -⟩ := pa_sum h 20 (by omega)
  exact ⟨Int32.le_iff_toInt_le.mpr a1, Int32.le_iff_toInt_le.mpr b1⟩
theorem ls_0 {p : Nat → Int32} : ∀ m, m ≤ 21 → s_ls p m = nI 0 → ∀ k, k < m → nI 0 ≤ s_df p k
  | 0, _, _, k, hk => absurd hk (Nat.not_lt_zero _)
  | m + 1, hm, e, k, hk => by
    have e2 : s_ls p m = 0 ∧ (if s_df p m < nI 0 then nI 1 <<< (nI m &&& 31) else nI 0) = 0 := Int32.or_eq_zero_iff.mp e
    by_cases c : k = m
    · subst c
      refine Int32.not_lt.mp (fun q => ?_)
      have h3 := e2.2
      rw [if_pos q] at h3
      have key : ∀ j, j < 21 → nI 1 <<< (nI j &&& 31) ≠ 0 := by decide +kernel
      exact key k (by omega) h3
    · exact ls_0 m (by omega) e2.1 k (by omega)
theorem pa_0 {p : Nat → Int32} (h : ∀ k, k < 21 → nI 0 ≤ s_df p k) : ∀ m, m ≤ 20 → s_pa p False m = nI 0
  | 0, _ => rfl
  | m + 1, hm => by
    show s_pa p False m + s_part (s_df p m) (s_df p (m + 1)) False = nI 0
    rw [pa_0 h m (by omega)]
    unfold s_part
    rw [if_pos ⟨h m (by omega), h (m + 1) (by omega)⟩, if_neg (fun q => q)]
    rfl
theorem lo_0 {p : Nat → Int32} (h : s_ls p 21 = nI 0) : s_pa p False 20 = nI 0 := pa_0 (ls_0 21 (Nat.le_refl _) h) 20 (Nat.le_refl _)
theorem mpr_25 {p : Nat → Int32} (h : ∀ k, k ≤ 20 → rg (s_df p k)) : (s_quo ((s_ar p 20).toInt64 * (1000 : Int64)) (40 : Int64)).toInt32 = nI 25 * v_ar p 21 := by
  obtain ⟨r1, r2⟩ := ar_in p h 20 (by omega)
  have k1 : (1000 : Int64).toInt = 1000 := rfl
  have k2 : (40 : Int64).toInt = 40 := rfl
  have k3 : (nI 25).toInt = 25 := rfl
  have e1 : ((s_ar p 20).toInt64 * (1000 : Int64)).toInt = (s_ar p 20).toInt * 1000 := by rw [fb_mulL (by rw [t64, k1]; omega) (by rw [t64, k1]; omega), t64, k1]
  have e2 : (s_quo ((s_ar p 20).toInt64 * (1000 : Int64)) (40 : Int64)).toInt = 25 * (s_ar p 20).toInt := by
    rw [quo_d (by rw [k2]; decide), e1, k2]
    omega
  apply Int32.toInt_inj.mp
  rw [Int64.toInt_toInt32, e2, var_eq, fb_mulI (by rw [k3]; omega) (by rw [k3]; omega), k3]
  exact fb_bmod (by omega) (by omega)
theorem mo_ge {p : Nat → Int32} : ∀ m k, k < m → p k ≤ v_mo p m
  | 0, k, hk => absurd hk (Nat.not_lt_zero _)
  | m + 1, k, hk => by
    show p k ≤ (if v_mo p m < p m then p m else v_mo p m)
    by_cases c : v_mo p m < p m
    · rw [if_pos c]
      by_cases e : k = m
      · rw [e]; exact Int32.le_refl _
      · exact Int32.le_of_lt (Int32.lt_of_le_of_lt (mo_ge m k (by omega)) c)
    · rw [if_neg c]
      by_cases e : k = m
      · rw [e]; exact Int32.not_lt.mp c
      · exact mo_ge m k (by omega)
/-! events, lateness, slip -/
theorem cu_in {f p : Nat → Int32} : s_ad f p ≤ s_cu f p ∧ (s_ad f p ≤ 20 → s_cu f p ≤ 20) := by
  unfold s_cu
  exact s_co_in _ _ _ _
theorem re_cu {f p : Nat → Int32} (hc : s_cu f p ≤ 20) : s_cu f p ≤ s_re f p ∧ (s_cu f p = s_re f p → s_cu f p = 20) := by
  have h := s_rl_ge f p (s_rb f p) 21 (s_cu f p + 1)
  unfold s_re
  generalize s_rl f p (s_rb f p) 21 (s_cu f p + 1) = z at h ⊢
  split
  · exact ⟨hc, fun q => q⟩
  · exact ⟨by omega, by omega⟩
theorem cp_le {f p : Nat → Int32} : s_cp f p ≤ 20 := by
  unfold s_cp
  generalize s_cm (fun k => p (21 + k)) (s_mi (fun k => p (21 + k)) 20 + f 6) 21 = z
  split
  · exact Nat.le_refl _
  · omega
theorem ev_0 {f : Nat → Int32} {c : Nat} : s_ev f c 0 = s_ad f (s_pt f c) := by unfold s_ev; rw [if_pos rfl]
theorem ev_1 {f : Nat → Int32} {c : Nat} : s_ev f c 1 = s_cu f (s_pt f c) := by unfold s_ev; rw [if_neg (by decide), if_pos rfl]
theorem ev_2 {f : Nat → Int32} {c : Nat} : s_ev f c 2 = s_re f (s_pt f c) := by unfold s_ev; rw [if_neg (by decide), if_neg (by decide), if_pos rfl]
theorem ev_3 {f : Nat → Int32} {c : Nat} : s_ev f c 3 = s_cp f (s_pt f c) := by unfold s_ev; rw [if_neg (by decide), if_neg (by decide), if_neg (by decide)]
theorem ev_ord {f : Nat → Int32} {c : Nat} (hX : s_ad f (s_pt f c) ≤ 20) : s_ev f c 0 ≤ s_ev f c 1 ∧ s_ev f c 1 ≤ s_ev f c 2 ∧ s_ev f c 2 ≤ 20 ∧ s_ev f c 3 ≤ 20 ∧ (s_ev f c 1 = s_ev f c 2 → s_ev f c 1 = 20) := by
  rw [ev_0, ev_1, ev_2, ev_3]
  obtain ⟨h1, h2⟩ := cu_in (f := f) (p := s_pt f c)
  obtain ⟨h3, h4⟩ := re_cu (h2 hX)
  exact ⟨h1, h3, (s_re_in _ _).2, cp_le, h4⟩
theorem la_n {f : Nat → Int32} {c k : Nat} (h : ¬ k = 3) : s_la f c k = nI (s_ev f c k) - f (8 + 4 * s_en f c + k) := if_neg h
theorem la_3 {f : Nat → Int32} {c : Nat} : s_la f c 3 = f (8 + 4 * s_en f c + 3) - nI (s_ev f c 3) := by
  show -(nI (s_ev f c 3) - f (8 + 4 * s_en f c + 3)) = _
  rw [Int32.neg_sub]
theorem val_in {f : Nat → Int32} (h1 : GV f 8) (h2 : GV f 12) {en k : Nat} (he : en ≤ 1) (hk : k ≤ 3) : iv 0 20 (f (8 + 4 * en + k)) := by
  obtain ⟨a0, a1, a2, a3, -, -⟩ := h1
  obtain ⟨b0, b1, b2, b3, -, -⟩ := h2
  rcases (show en = 0 ∨ en = 1 by omega) with e | e <;> subst e <;> rcases (show k = 0 ∨ k = 1 ∨ k = 2 ∨ k = 3 by omega) with e | e | e | e <;> subst e
  · exact iv_w a0 (by decide) (by decide)
  · exact iv_w a1 (by decide) (by decide)
  · exact iv_w a2 (by decide) (by decide)
  · exact iv_w a3 (by decide) (by decide)
  · exact iv_w b0 (by decide) (by decide)
  · exact iv_w b1 (by decide) (by decide)
  · exact iv_w b2 (by decide) (by decide)
  · exact iv_w b3 (by decide) (by decide)
theorem la_in {f : Nat → Int32} {cn c k : Nat} (hQ : QF f cn) (hc : c < cn) (hk : k ≤ 3) : -20 ≤ (s_la f c k).toInt ∧ (s_la f c k).toInt ≤ 20 := by
  obtain ⟨o0, o1, o2, o3, -⟩ := ev_ord (hQ.X c hc)
  have hev : s_ev f c k ≤ 20 := by
    rcases (show k = 0 ∨ k = 1 ∨ k = 2 ∨ k = 3 by omega) with e | e | e | e <;> subst e <;> omega
  obtain ⟨v1, v2⟩ := val_in hQ.2.2.2.1.1 hQ.2.2.2.1.2 (hQ.E c hc).2 hk
  have e1 : (nI (s_ev f c k)).toInt = (s_ev f c k : Int) := nI_toInt (by omega)
  by_cases h3 : k = 3
  · subst h3
    rw [la_3, fb_subI (by omega) (by omega), e1]
    omega
  · rw [la_n h3, fb_subI (by omega) (by omega), e1]
    omega
def v_dv (f : Nat → Int32) (j : Nat) (d : Int32) : Nat → Int32
  | 0 => nI 0
  | k + 1 => v_dv f j d k + (if s_la f j k < d then d - s_la f j k else s_la f j k - d)
theorem dv_1 {a d : Int32} (ha : -20 ≤ a.toInt ∧ a.toInt ≤ 20) (hd : -5 ≤ d.toInt ∧ d.toInt ≤ 5) : s_size (a - d) = (if a < d then d - a else a - d) := by
  have e : (a - d).toInt = a.toInt - d.toInt := fb_subI (by omega) (by omega)
  have z0 : (nI 0).toInt = 0 := rfl
  unfold s_size
  by_cases c : a < d
  · have c2 := Int32.lt_iff_toInt_lt.mp c
    rw [if_pos c, if_pos (Int32.lt_iff_toInt_lt.mpr (by rw [e, z0]; omega)), Int32.neg_sub]
  · have c2 := mt Int32.lt_iff_toInt_lt.mpr c
    rw [if_neg c, if_neg (fun q => by have := Int32.lt_iff_toInt_lt.mp q; rw [e, z0] at this; omega)]
theorem dv_of {f : Nat → Int32} {cn c : Nat} (hQ : QF f cn) (hc : c < cn) {d : Int32} (hd : -5 ≤ d.toInt ∧ d.toInt ≤ 5) : v_dv f c d 4 = s_of f c d := by
  unfold s_of
  rw [dv_1 (la_in hQ hc (by decide)) hd, dv_1 (la_in hQ hc (by decide)) hd, dv_1 (la_in hQ hc (by decide)) hd, dv_1 (la_in hQ hc (by decide)) hd]
  rfl
theorem s1_ok {f : Nat → Int32} {j k : Nat} {b : Int32} : (s_s1 f j b k = -nI k ∨ s_s1 f j b k = b) ∧ s_of f j (s_s1 f j b k) ≤ s_of f j b ∧ s_of f j (s_s1 f j b k) ≤ s_of f j (-nI k) := by
  unfold s_s1
  by_cases c : s_of f j (-nI k) < s_of f j b
  · rw [if_pos c]; exact ⟨Or.inl rfl, Int32.le_of_lt c, Int32.le_refl _⟩
  · rw [if_neg c]; exact ⟨Or.inr rfl, Int32.le_refl _, Int32.not_lt.mp c⟩
theorem s2_ok {f : Nat → Int32} {j k : Nat} {b : Int32} : (s_s2 f j b k = nI k ∨ s_s2 f j b k = b) ∧ s_of f j (s_s2 f j b k) ≤ s_of f j b ∧ s_of f j (s_s2 f j b k) ≤ s_of f j (nI k) := by
  unfold s_s2
  by_cases c : s_of f j (nI k) < s_of f j b
  · rw [if_pos c]; exact ⟨Or.inl rfl, Int32.le_of_lt c, Int32.le_refl _⟩
  · rw [if_neg c]; exact ⟨Or.inr rfl, Int32.le_refl _, Int32.not_lt.mp c⟩
theorem sl_ok {f : Nat → Int32} {j : Nat} : ∀ k, (∃ m, m ≤ k ∧ (s_sl f j k = nI m ∨ s_sl f j k = -nI m)) ∧ ∀ m, m ≤ k → s_of f j (s_sl f j k) ≤ s_of f j (nI m) ∧ s_of f j (s_sl f j k) ≤ s_of f j (-nI m)
  | 0 => ⟨⟨0, Nat.le_refl _, Or.inl rfl⟩, fun m hm => by
      have e : m = 0 := by omega
      subst e
      exact ⟨Int32.le_refl _, Int32.le_refl _⟩⟩
  | k + 1 => by
    obtain ⟨⟨m0, h0, h1⟩, h2⟩ := sl_ok (f := f) (j := j) k
    obtain ⟨a1, a2, a3⟩ := s1_ok (f := f) (j := j) (k := k + 1) (b := s_sl f j k)
    obtain ⟨b1, b2, b3⟩ := s2_ok (f := f) (j := j) (k := k + 1) (b := s_s1 f j (s_sl f j k) (k + 1))
    have e : s_sl f j (k + 1) = s_s2 f j (s_s1 f j (s_sl f j k) (k + 1)) (k + 1) := rfl
    rw [e]
    refine ⟨?_, fun m hm => ?_⟩
    · rcases b1 with b1 | b1
      · exact ⟨k + 1, Nat.le_refl _, Or.inl b1⟩
      · rw [b1]
        rcases a1 with a1 | a1
        · exact ⟨k + 1, Nat.le_refl _, Or.inr a1⟩
        · rw [a1]; exact ⟨m0, by omega, h1⟩
    · by_cases c : m = k + 1
      · subst c; exact ⟨b3, Int32.le_trans b2 a3⟩
      · have h3 := h2 m (by omega)
        exact ⟨Int32.le_trans b2 (Int32.le_trans a2 h3.1), Int32.le_trans b2 (Int32.le_trans a2 h3.2)⟩
theorem sl_in {f : Nat → Int32} {j : Nat} : -5 ≤ (s_sl f j 5).toInt ∧ (s_sl f j 5).toInt ≤ 5 := by
  obtain ⟨⟨m, h, h1⟩, -⟩ := sl_ok (f := f) (j := j) 5
  have e : (nI m).toInt = (m : Int) := nI_toInt (by omega)
  rcases h1 with h1 | h1
  · rw [h1, e]; omega
  · rw [h1, fb_negI (by rw [e]; omega), e]; omega
theorem sl_best {f : Nat → Int32} {cn c : Nat} (hQ : QF f cn) (hc : c < cn) {d : Int32} (hd : -5 ≤ d.toInt ∧ d.toInt ≤ 5) : v_dv f c (s_sl f c 5) 4 ≤ v_dv f c d 4 := by
  rw [dv_of hQ hc sl_in, dv_of hQ hc hd]
  obtain ⟨-, h2⟩ := sl_ok (f := f) (j := c) 5
  rcases Int.le_total 0 d.toInt with q | q
  · have e : d = nI d.toInt.toNat := Int32.toInt_inj.mp (by rw [nI_toInt (by omega)]; omega)
    rw [e]
    exact (h2 _ (by omega)).1
  · have e1 : (nI (-d.toInt).toNat).toInt = ((-d.toInt).toNat : Int) := nI_toInt (by omega)
    have e : d = -nI (-d.toInt).toNat := Int32.toInt_inj.mp (by rw [fb_negI (by rw [e1]; omega), e1]; omega)
    rw [e]
    exact (h2 _ (by omega)).2
