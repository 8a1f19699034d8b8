/-! the mean card's area, the mean power -/
def v_sA (f : Nat → Int32) (en : Int32) : Nat → Int64
  | 0 => lN 0
  | k + 1 => v_sA f en k + (if f (62 + 44 * k) = en then (s_A f k).toInt64 else lN 0)
def aai (f : Nat → Int32) (en : Int32) (m : Nat) : Nat → Int
  | 0 => 0
  | k + 1 => aai f en m k + (if f (62 + 44 * k) = en then (s_ar (s_pt f k) m).toInt else 0)
section MEANS
variable {f : Nat → Int32} {cn : Nat} {en : Int32}
theorem sA_i (hQ : QF f cn) : ∀ w : Nat, w ≤ cn → (v_sA f en w).toInt = aai f en 20 w ∧ -(200000 * (w : Int)) ≤ aai f en 20 w ∧ aai f en 20 w ≤ 200000 * (w : Int)
  | 0, _ => ⟨rfl, by show -(200000 * ((0 : Nat) : Int)) ≤ (0 : Int); omega, by show (0 : Int) ≤ 200000 * ((0 : Nat) : Int); omega⟩
  | w + 1, hw => by
    obtain ⟨h1, h2, h3⟩ := sA_i hQ w (by omega)
    have hcn := hQ.1
    obtain ⟨r1, r2⟩ := ar_in (s_pt f w) (hQ.R w (by omega)) 20 (by omega)
    have z0 : (lN 0).toInt = 0 := rfl
    have ea : (s_A f w).toInt = (s_ar (s_pt f w) 20).toInt := rfl
    have eq : aai f en 20 (w + 1) = aai f en 20 w + (if f (62 + 44 * w) = en then (s_ar (s_pt f w) 20).toInt else 0) := rfl
    have ev : v_sA f en (w + 1) = v_sA f en w + (if f (62 + 44 * w) = en then (s_A f w).toInt64 else lN 0) := rfl
    rw [eq, ev]
    by_cases c : f (62 + 44 * w) = en
    · rw [if_pos c, if_pos c]
      refine ⟨?_, by omega, by omega⟩
      rw [fb_addL (by rw [t64, ea]; omega) (by rw [t64, ea]; omega), t64, ea, h1]
    · rw [if_neg c, if_neg c]
      refine ⟨?_, by omega, by omega⟩
      rw [fb_addL (by rw [z0]; omega) (by rw [z0]; omega), z0, h1]
theorem sc_step (hQ : QF f cn) {t w : Nat} (ht : t < 42) (hw : w < cn) : (s_sc f en t (w + 1)).toInt = (s_sc f en t w).toInt + (if f (62 + 44 * w) = en then (s_pt f w t).toInt else 0) := by
  have hcn := hQ.1
  obtain ⟨a1, a2⟩ := sc_in hQ.1 en ht hQ.p0 w (by omega)
  obtain ⟨b1, b2⟩ := hQ.p0 w hw t ht
  have z0 : (nI 0).toInt = 0 := rfl
  show (s_sc f en t w + (if f (62 + 44 * w) = en then s_pt f w t else nI 0)).toInt = _
  by_cases c : f (62 + 44 * w) = en
  · rw [if_pos c, if_pos c]; exact fb_addI (by omega) (by omega)
  · rw [if_neg c, if_neg c, fb_addI (by rw [z0]; omega) (by rw [z0]; omega), z0]
theorem df_i {p : Nat → Int32} {k : Nat} (h1 : 0 ≤ (p k).toInt ∧ (p k).toInt ≤ 50000) (h2 : 0 ≤ (p (21 + k)).toInt ∧ (p (21 + k)).toInt ≤ 50000) : (s_df p k).toInt = (p k).toInt - (p (21 + k)).toInt := fb_subI (by omega) (by omega)
theorem ar_step {p : Nat → Int32} (h : ∀ t, t < 42 → 0 ≤ (p t).toInt ∧ (p t).toInt ≤ 50000) : ∀ m : Nat, m ≤ 20 → (-(100000 * (m : Int)) ≤ (s_ar p m).toInt ∧ (s_ar p m).toInt ≤ 100000 * (m : Int)) ∧ (m < 20 → (s_ar p (m + 1)).toInt = (s_ar p m).toInt + (((p m).toInt - (p (21 + m)).toInt) + ((p (m + 1)).toInt - (p (21 + (m + 1))).toInt))) := by
  have step : ∀ m : Nat, m < 20 → (-(100000 * (m : Int)) ≤ (s_ar p m).toInt ∧ (s_ar p m).toInt ≤ 100000 * (m : Int)) → (s_ar p (m + 1)).toInt = (s_ar p m).toInt + (((p m).toInt - (p (21 + m)).toInt) + ((p (m + 1)).toInt - (p (21 + (m + 1))).toInt)) := by
    intro m hm hr
    have d1 := df_i (p := p) (h m (by omega)) (h (21 + m) (by omega))
    have d2 := df_i (p := p) (h (m + 1) (by omega)) (h (21 + (m + 1)) (by omega))
    have a1 := h m (by omega)
    have a2 := h (21 + m) (by omega)
    have a3 := h (m + 1) (by omega)
    have a4 := h (21 + (m + 1)) (by omega)
    have e3 : (s_df p m + s_df p (m + 1)).toInt = (s_df p m).toInt + (s_df p (m + 1)).toInt := fb_addI (by omega) (by omega)
    show (s_ar p m + (s_df p m + s_df p (m + 1))).toInt = _
    rw [fb_addI (by rw [e3]; omega) (by rw [e3]; omega), e3, d1, d2]
  have rng : ∀ m : Nat, m ≤ 20 → -(100000 * (m : Int)) ≤ (s_ar p m).toInt ∧ (s_ar p m).toInt ≤ 100000 * (m : Int) := by
    intro m
    induction m with
    | zero =>
      intro _
      have z0 : (nI 0).toInt = 0 := rfl
      show -(100000 * ((0 : Nat) : Int)) ≤ (nI 0).toInt ∧ (nI 0).toInt ≤ 100000 * ((0 : Nat) : Int)
      rw [z0]
      omega
    | succ m ih =>
      intro hm
      have hr := ih (by omega)
      have e := step m (by omega) hr
      have a1 := h m (by omega)
      have a2 := h (21 + m) (by omega)
      have a3 := h (m + 1) (by omega)
      have a4 := h (21 + (m + 1)) (by omega)
      rw [e]
      omega
  exact fun m hm => ⟨rng m hm, fun hm2 => step m hm2 (rng m hm)⟩
theorem pt_5 (hQ : QF f cn) {j : Nat} (hj : j < cn) : ∀ t, t < 42 → 0 ≤ (s_pt f j t).toInt ∧ (s_pt f j t).toInt ≤ 50000 := fun t ht => by
  obtain ⟨b1, b2⟩ := hQ.p0 j hj t ht
  omega
theorem aai_step (hQ : QF f cn) {m : Nat} (hm : m < 20) : ∀ w : Nat, w ≤ cn → aai f en (m + 1) w = aai f en m w + (((s_sc f en m w).toInt - (s_sc f en (21 + m) w).toInt) + ((s_sc f en (m + 1) w).toInt - (s_sc f en (21 + (m + 1)) w).toInt))
  | 0, _ => rfl
  | w + 1, hw => by
    have ih := aai_step hQ hm w (by omega)
    have e1 := sc_step (en := en) hQ (t := m) (w := w) (by omega) (by omega)
    have e2 := sc_step (en := en) hQ (t := 21 + m) (w := w) (by omega) (by omega)
    have e3 := sc_step (en := en) hQ (t := m + 1) (w := w) (by omega) (by omega)
    have e4 := sc_step (en := en) hQ (t := 21 + (m + 1)) (w := w) (by omega) (by omega)
    have ea := (ar_step (pt_5 hQ (j := w) (by omega)) m (by omega)).2 hm
    have q1 : aai f en (m + 1) (w + 1) = aai f en (m + 1) w + (if f (62 + 44 * w) = en then (s_ar (s_pt f w) (m + 1)).toInt else 0) := rfl
    have q2 : aai f en m (w + 1) = aai f en m w + (if f (62 + 44 * w) = en then (s_ar (s_pt f w) m).toInt else 0) := rfl
    rw [q1, q2, e1, e2, e3, e4, ih]
    by_cases c : f (62 + 44 * w) = en
    · simp only [if_pos c]
      rw [ea]
      omega
    · simp only [if_neg c]
      omega
theorem mv_i (hQ : QF f cn) (hm : 0 < s_mn f en cn) {t : Nat} (ht : t < 42) : (s_mv f en cn t).toInt = (s_sc f en t cn).toInt / (s_mn f en cn : Int) ∧ 0 ≤ (s_mv f en cn t).toInt ∧ (s_mv f en cn t).toInt ≤ 50000 := by
  have hcn := hQ.1
  have hle := s_mn_le f en cn
  obtain ⟨a1, a2⟩ := sc_in hQ.1 en ht hQ.p0 cn (Nat.le_refl _)
  have en1 : (nI (s_mn f en cn)).toInt = (s_mn f en cn : Int) := nI_toInt (by omega)
  have e : (s_mv f en cn t).toInt = (s_sc f en t cn).toInt / (s_mn f en cn : Int) := by
    unfold s_mv
    rw [dv_pos a1 (by rw [en1]; omega), en1]
  refine ⟨e, ?_, ?_⟩
  · rw [e]; exact Int.ediv_nonneg a1 (by omega)
  · rw [e]
    have := ediv_bd (X := (s_sc f en t cn).toInt) (K := (s_mn f en cn : Int)) (B := 50000) (by omega) (by omega) (by omega) (by decide)
    exact this.2
theorem mv_m (hQ : QF f cn) (hm : 0 < s_mn f en cn) {t : Nat} (ht : t < 42) : (s_mn f en cn : Int) * (s_mv f en cn t).toInt ≤ (s_sc f en t cn).toInt ∧ (s_sc f en t cn).toInt < (s_mn f en cn : Int) * (s_mv f en cn t).toInt + (s_mn f en cn : Int) := by
  rw [(mv_i hQ hm ht).1]
  have h1 := Int.mul_ediv_add_emod (s_sc f en t cn).toInt (s_mn f en cn : Int)
  have h2 := Int.emod_nonneg (s_sc f en t cn).toInt (b := (s_mn f en cn : Int)) (by omega)
  have h3 := Int.emod_lt_of_pos (s_sc f en t cn).toInt (b := (s_mn f en cn : Int)) (by omega)
  omega
theorem ma_bd (hQ : QF f cn) (hm : 0 < s_mn f en cn) : ∀ m : Nat, m ≤ 20 → -(2 * (m : Int) * (s_mn f en cn : Int)) ≤ (s_mn f en cn : Int) * (s_ar (s_mv f en cn) m).toInt - aai f en m cn ∧ (s_mn f en cn : Int) * (s_ar (s_mv f en cn) m).toInt - aai f en m cn ≤ 2 * (m : Int) * (s_mn f en cn : Int) := by
  have ha0 : ∀ w, aai f en 0 w = 0 := by
    intro w
    induction w with
    | zero => rfl
    | succ w ih =>
      show aai f en 0 w + (if f (62 + 44 * w) = en then (nI 0).toInt else 0) = 0
      rw [ih, show (nI 0).toInt = 0 from rfl]
      split <;> rfl
  intro m
  induction m with
  | zero =>
    intro _
    rw [ha0]
    show -(2 * (0 : Int) * _) ≤ (s_mn f en cn : Int) * (nI 0).toInt - 0 ∧ (s_mn f en cn : Int) * (nI 0).toInt - 0 ≤ 2 * (0 : Int) * _
    rw [show (nI 0).toInt = 0 from rfl]
    omega
  | succ m ih =>
    intro hm1
    obtain ⟨h1, h2⟩ := ih (by omega)
    have e1 := (ar_step (p := s_mv f en cn) (fun t ht => (mv_i hQ hm ht).2) m (by omega)).2 (by omega)
    have e2 := aai_step (en := en) hQ (m := m) (by omega) cn (Nat.le_refl _)
    have m1 := mv_m hQ hm (t := m) (by omega)
    have m2 := mv_m hQ hm (t := 21 + m) (by omega)
    have m3 := mv_m hQ hm (t := m + 1) (by omega)
    have m4 := mv_m hQ hm (t := 21 + (m + 1)) (by omega)
    rw [e1, e2, show ((m + 1 : Nat) : Int) = (m : Int) + 1 from rfl]
    simp only [Int.mul_add, Int.mul_sub, Int.add_mul]
    omega
theorem off_ok (hQ : QF f cn) (hm : 0 < s_mn f en cn) : ¬ (s_ar (s_mv f en cn) 20).toInt64 * (nI (s_mn f en cn)).toInt64 - v_sA f en cn < (-40 : Int64) * (nI (s_mn f en cn)).toInt64 ∧ ¬ (40 : Int64) * (nI (s_mn f en cn)).toInt64 < (s_ar (s_mv f en cn) 20).toInt64 * (nI (s_mn f en cn)).toInt64 - v_sA f en cn := by
  have hcn := hQ.1
  have hle := s_mn_le f en cn
  have en1 : (nI (s_mn f en cn)).toInt = (s_mn f en cn : Int) := nI_toInt (by omega)
  obtain ⟨a1, a2, a3⟩ := sA_i (en := en) hQ cn (Nat.le_refl _)
  obtain ⟨b1, b2⟩ := ma_bd hQ hm 20 (Nat.le_refl _)
  obtain ⟨⟨r1, r2⟩, -⟩ := ar_step (p := s_mv f en cn) (fun t ht => (mv_i hQ hm ht).2) 20 (Nat.le_refl _)
  have k1 : (-40 : Int64).toInt = -40 := rfl
  have k2 : (40 : Int64).toInt = 40 := rfl
  have mb := mul_ab (a := (s_ar (s_mv f en cn) 20).toInt) (b := (s_mn f en cn : Int)) (A := 2000000) (B := 10) (by omega) (by omega)
  have e1 : ((s_ar (s_mv f en cn) 20).toInt64 * (nI (s_mn f en cn)).toInt64).toInt = (s_mn f en cn : Int) * (s_ar (s_mv f en cn) 20).toInt := by
    rw [fb_mulL (by rw [t64, t64, en1]; omega) (by rw [t64, t64, en1]; omega), t64, t64, en1, Int.mul_comm]
  rw [Int.mul_comm] at mb
  have e2 : ((s_ar (s_mv f en cn) 20).toInt64 * (nI (s_mn f en cn)).toInt64 - v_sA f en cn).toInt = (s_mn f en cn : Int) * (s_ar (s_mv f en cn) 20).toInt - aai f en 20 cn := by
    rw [fb_subL (by rw [e1, a1]; omega) (by rw [e1, a1]; omega), e1, a1]
  have e3 : ((-40 : Int64) * (nI (s_mn f en cn)).toInt64).toInt = -40 * (s_mn f en cn : Int) := by rw [fb_mulL (by rw [t64, en1, k1]; omega) (by rw [t64, en1, k1]; omega), t64, en1, k1]
  have e4 : ((40 : Int64) * (nI (s_mn f en cn)).toInt64).toInt = 40 * (s_mn f en cn : Int) := by rw [fb_mulL (by rw [t64, en1, k2]; omega) (by rw [t64, en1, k2]; omega), t64, en1, k2]
  refine ⟨fun q => ?_, fun q => ?_⟩
  · have := Int64.lt_iff_toInt_lt.mp q
    rw [e2, e3] at this
    omega
  · have := Int64.lt_iff_toInt_lt.mp q
    rw [e2, e4] at this
    omega
theorem rest_ok (hQ : QF f cn) (hm : 0 < s_mn f en cn) : ¬ s_sp f en cn - s_mp f en cn * (nI (s_mn f en cn)).toInt64 < lN 0 ∧ s_sp f en cn - s_mp f en cn * (nI (s_mn f en cn)).toInt64 < (nI (s_mn f en cn)).toInt64 := by
  have hcn := hQ.1
  have hle := s_mn_le f en cn
  have en1 : (nI (s_mn f en cn)).toInt = (s_mn f en cn : Int) := nI_toInt (by omega)
  have en2 : (nI (s_mn f en cn)).toInt64.toInt = (s_mn f en cn : Int) := by rw [t64, en1]
  obtain ⟨a1, -⟩ := sp_in hQ.2.2.1 hQ.1 hQ.2.2.2.2 en cn (Nat.le_refl _)
  have e0 : (s_mp f en cn).toInt = (s_sp f en cn).toInt / (s_mn f en cn : Int) := by
    unfold s_mp
    rw [quo_d (by rw [en2]; omega), en2]
  have h1 := Int.mul_ediv_add_emod (s_sp f en cn).toInt (s_mn f en cn : Int)
  have h2 := Int.emod_nonneg (s_sp f en cn).toInt (b := (s_mn f en cn : Int)) (by omega)
  have h3 := Int.emod_lt_of_pos (s_sp f en cn).toInt (b := (s_mn f en cn : Int)) (by omega)
  have e1 : (s_mp f en cn * (nI (s_mn f en cn)).toInt64).toInt = (s_mn f en cn : Int) * ((s_sp f en cn).toInt / (s_mn f en cn : Int)) := by
    rw [fb_mulL (by rw [e0, en2, Int.mul_comm]; omega) (by rw [e0, en2, Int.mul_comm]; omega), e0, en2, Int.mul_comm]
  have e2 : (s_sp f en cn - s_mp f en cn * (nI (s_mn f en cn)).toInt64).toInt = (s_sp f en cn).toInt % (s_mn f en cn : Int) := by
    rw [fb_subL (by rw [e1]; omega) (by rw [e1]; omega), e1]
    omega
  have z0 : (lN 0).toInt = 0 := rfl
  refine ⟨fun q => ?_, Int64.lt_iff_toInt_lt.mpr (by rw [e2, en2]; exact h3)⟩
  have := Int64.lt_iff_toInt_lt.mp q
  rw [e2, z0] at this
  omega
theorem mn_sum (hQ : QF f cn) : ∀ w, w ≤ cn → s_mn f (nI 0) w + s_mn f (nI 1) w = w
  | 0, _ => rfl
  | w + 1, hw => by
    have ih := mn_sum hQ w (by omega)
    obtain ⟨e, h⟩ := hQ.E w (by omega)
    show s_mn f (nI 0) w + (if f (62 + 44 * w) = nI 0 then 1 else 0) + (s_mn f (nI 1) w + (if f (62 + 44 * w) = nI 1 then 1 else 0)) = w + 1
    rcases (show s_en f w = 0 ∨ s_en f w = 1 by omega) with z | z <;> rw [e, z]
    · rw [if_pos rfl, if_neg (by decide)]; omega
    · rw [if_neg (by decide), if_pos rfl]; omega
end MEANS
