/-! the nearest cut-off: the class's search is the reference's -/
theorem neg_L {x : Int64} (h : x.toInt ≠ -9223372036854775808) : (-x).toInt = -x.toInt := by
  have hr := fb_rngL x
  rw [Int64.toInt_neg]
  exact fb_bmodL (by omega) (by omega)
theorem abl_n {x : Int64} (h : -4611686018427387904 ≤ x.toInt) : (s_abl x).toInt = (x.toInt.natAbs : Int) := by
  have hz : (lN 0).toInt = 0 := rfl
  have hr := fb_rngL x
  unfold s_abl
  by_cases c : x < lN 0
  · have c2 := Int64.lt_iff_toInt_lt.mp c
    rw [hz] at c2
    rw [if_pos c, neg_L (by omega)]
    omega
  · have c2 := mt Int64.lt_iff_toInt_lt.mpr c
    rw [hz] at c2
    rw [if_neg c]
    omega
theorem size_n {x : Int32} (h : -1073741824 ≤ x.toInt) : (s_size x).toInt = (x.toInt.natAbs : Int) := by
  have hz : (nI 0).toInt = 0 := rfl
  have hr := fb_rng x
  unfold s_size
  by_cases c : x < nI 0
  · have c2 := Int32.lt_iff_toInt_lt.mp c
    rw [hz] at c2
    rw [if_pos c, fb_negI (by omega)]
    omega
  · have c2 := mt Int32.lt_iff_toInt_lt.mpr c
    rw [hz] at c2
    rw [if_neg c]
    omega
section BEST
variable {f : Nat → Int32} {j : Nat}
theorem s_ip_in {va vc vr vm lk : Int32} (hF : GF f) (hO : OE va vc vr) (hl : iv (-20) 20 lk) (hm : iv 0 19 vm) : ∀ k, k < 42 → iv 0 5000 (s_ip f va vc vr vm lk k) := fun k hk => by
  unfold s_ip
  by_cases c : k < 21
  · rw [if_pos c, ← (do_eq hF hO hl c).1]; exact (do_eq hF hO hl c).2
  · rw [if_neg c, ← (di_eq hF hm (show k - 21 < 21 by omega)).1]; exact (di_eq hF hm (by omega)).2
theorem ib_ab (hF : GF f) {co : Int32} (hO : OE (f (8 + 4 * j)) co (f (8 + 4 * j + 2))) (hm : iv 0 19 (f (8 + 4 * j + 3))) : (s_ibR f j co).toInt.natAbs ≤ 200000 := by
  rw [s_ibR_ip]
  exact ar_ab (s_ip_in hF hO ⟨by decide, by decide⟩ hm)
theorem can_OE (hV : GV f (8 + 4 * j)) {co : Int32} (hc : iv 1 18 co) (h : s_can f j co) : OE (f (8 + 4 * j)) co (f (8 + 4 * j + 2)) := by
  obtain ⟨v1, v2, v3, v4, -, -⟩ := hV
  exact ⟨iv_w v1 (by decide) (by decide), iv_w hc (by decide) (by decide), v3, Int32.lt_iff_toInt_lt.mp h.1, Int32.lt_iff_toInt_lt.mp h.2⟩
theorem co_iv {i : Nat} (hi : i + 1 ≤ 18) : iv 1 18 (nI (i + 1)) := by
  have := nI_toInt (n := i + 1) (by omega)
  exact ⟨by omega, by omega⟩
theorem nc_bc (hF : GF f) (hV : GV f (8 + 4 * j)) (hj : j ≤ 1) {c0 w : Int32} (hw : w.toInt.natAbs ≤ 200000) : ∀ i : Nat, i ≤ 18 →
    ((s_bc f j w i).1 = 0 ∧ k_nc (f (8 + 4 * j)) (f (8 + 4 * j + 2)) c0 (k_dA f (8 + 4 * j) w.toInt64) i = ((9223372036854775807 : Int64), c0)) ∨
    (0 < (s_bc f j w i).1 ∧ (k_nc (f (8 + 4 * j)) (f (8 + 4 * j + 2)) c0 (k_dA f (8 + 4 * j) w.toInt64) i).2 = nI (s_bc f j w i).1 ∧ (k_nc (f (8 + 4 * j)) (f (8 + 4 * j + 2)) c0 (k_dA f (8 + 4 * j) w.toInt64) i).1.toInt = (s_bc f j w i).2.toInt)
  | 0, _ => Or.inl ⟨rfl, rfl⟩
  | i + 1, hi => by
    have ih := nc_bc hF hV hj (c0 := c0) hw i (by omega)
    by_cases can : s_can f j (nI (i + 1))
    · have hO := can_OE hV (co_iv hi) can
      have ha := ib_ab hF hO hV.2.2.2.1
      have hD : (k_dA f (8 + 4 * j) w.toInt64 (nI (i + 1))).toInt = (s_size (s_ibR f j (nI (i + 1)) - w)).toInt ∧ (k_dA f (8 + 4 * j) w.toInt64 (nI (i + 1))).toInt ≤ 400000 := by
        unfold k_dA
        rw [ic_eq hF hj hO hV.2.2.2.1]
        have e1 : ((s_ibR f j (nI (i + 1))).toInt64 - w.toInt64).toInt = (s_ibR f j (nI (i + 1))).toInt - w.toInt := by rw [fb_subL (by rw [t64, t64]; omega) (by rw [t64, t64]; omega), t64, t64]
        have e2 : (s_ibR f j (nI (i + 1)) - w).toInt = (s_ibR f j (nI (i + 1))).toInt - w.toInt := fb_subI (by omega) (by omega)
        rw [abl_n (by omega), size_n (by omega), e1, e2]
        omega
      generalize hDe : k_dA f (8 + 4 * j) w.toInt64 = D at *
      rcases ih with ⟨b0, k0⟩ | ⟨b0, k1, k2⟩
      · right
        have e1 := s_bc_t (f := f) (j := j) (i := i) (w := w) can (Or.inl b0)
        have hM : D (nI (i + 1)) < (9223372036854775807 : Int64) := Int64.lt_iff_toInt_lt.mpr (by
          have : (9223372036854775807 : Int64).toInt = 9223372036854775807 := rfl
          omega)
        have e2 : k_nc (f (8 + 4 * j)) (f (8 + 4 * j + 2)) c0 D (i + 1) = (D (nI (i + 1)), nI (i + 1)) := by
          have h3 := kn_t1 (va := f (8 + 4 * j)) (vr := f (8 + 4 * j + 2)) (c0 := c0) (D := D) (j := i) (zl := (9223372036854775807 : Int64)) (by rw [k0]) can.1 can.2 hM
          exact Prod.ext h3.2.symm h3.1.symm
        rw [e1, e2]
        exact ⟨Nat.succ_pos i, rfl, hD.1⟩
      · by_cases c : s_size (s_ibR f j (nI (i + 1)) - w) < (s_bc f j w i).2
        · right
          have e1 := s_bc_t (f := f) (j := j) (i := i) (w := w) can (Or.inr c)
          have c2 := Int32.lt_iff_toInt_lt.mp c
          have e2 : k_nc (f (8 + 4 * j)) (f (8 + 4 * j + 2)) c0 D (i + 1) = (D (nI (i + 1)), nI (i + 1)) := by
            have h3 := kn_t1 (va := f (8 + 4 * j)) (vr := f (8 + 4 * j + 2)) (c0 := c0) (D := D) (j := i) rfl can.1 can.2 (Int64.lt_iff_toInt_lt.mpr (by omega))
            exact Prod.ext h3.2.symm h3.1.symm
          rw [e1, e2]
          exact ⟨Nat.succ_pos i, rfl, hD.1⟩
        · right
          have e1 := s_bc_f (f := f) (j := j) (i := i) (w := w) (fun q => q.2.elim (fun z => by omega) c)
          have c2 := mt Int32.lt_iff_toInt_lt.mpr c
          have e2 : k_nc (f (8 + 4 * j)) (f (8 + 4 * j + 2)) c0 D (i + 1) = k_nc (f (8 + 4 * j)) (f (8 + 4 * j + 2)) c0 D i := by
            have h3 := kn_f1 (va := f (8 + 4 * j)) (vr := f (8 + 4 * j + 2)) (c0 := c0) (D := D) (j := i) rfl rfl (fun q => by have := Int64.lt_iff_toInt_lt.mp q.2.2; omega)
            exact Prod.ext h3.2.symm h3.1.symm
          rw [e1, e2]
          exact ⟨b0, k1, k2⟩
    · have e1 := s_bc_f (f := f) (j := j) (i := i) (w := w) (fun q => can q.1)
      have e2 : k_nc (f (8 + 4 * j)) (f (8 + 4 * j + 2)) c0 (k_dA f (8 + 4 * j) w.toInt64) (i + 1) = k_nc (f (8 + 4 * j)) (f (8 + 4 * j + 2)) c0 (k_dA f (8 + 4 * j) w.toInt64) i := by
        have h3 := kn_f1 (va := f (8 + 4 * j)) (vr := f (8 + 4 * j + 2)) (c0 := c0) (D := k_dA f (8 + 4 * j) w.toInt64) (j := i) rfl rfl (fun q => can ⟨q.1, q.2.1⟩)
        exact Prod.ext h3.2.symm h3.1.symm
      rw [e1, e2]
      exact ih
theorem bc_pos {w : Int32} {i : Nat} (h : s_can f j (nI (i + 1))) : ∀ m, 0 < (s_bc f j w (i + 1 + m)).1
  | 0 => by
    by_cases c : (s_bc f j w i).1 = 0 ∨ s_size (s_ibR f j (nI (i + 1)) - w) < (s_bc f j w i).2
    · rw [s_bc_t h c]; exact Nat.succ_pos i
    · have e := s_bc_f (f := f) (j := j) (i := i) (w := w) (fun q => c q.2)
      show 0 < (s_bc f j w (i + 1)).1
      rw [e]
      omega
  | m + 1 => by
    have ih := bc_pos (w := w) h m
    show 0 < (s_bc f j w (i + 1 + m + 1)).1
    by_cases c : s_can f j (nI (i + 1 + m + 1)) ∧ ((s_bc f j w (i + 1 + m)).1 = 0 ∨ s_size (s_ibR f j (nI (i + 1 + m + 1)) - w) < (s_bc f j w (i + 1 + m)).2)
    · rw [s_bc_t c.1 c.2]; exact Nat.succ_pos _
    · rw [s_bc_f c]; exact ih
/-- the valve settings' own cut-off is one of them -/
theorem own_co (hV : GV f (8 + 4 * j)) : ∃ i : Nat, i + 1 ≤ 18 ∧ s_can f j (nI (i + 1)) := by
  obtain ⟨v1, ⟨v2, v2b⟩, v3, v4, v5, v6⟩ := hV
  refine ⟨(f (8 + 4 * j + 1)).toInt.toNat - 1, by omega, ?_⟩
  have e : nI ((f (8 + 4 * j + 1)).toInt.toNat - 1 + 1) = f (8 + 4 * j + 1) := by
    refine Int32.toInt_inj.mp ?_
    rw [nI_toInt (by omega)]
    omega
  rw [e]
  exact ⟨Int32.lt_iff_toInt_lt.mpr v5, Int32.lt_iff_toInt_lt.mpr v6⟩
theorem bco_eq (hF : GF f) (hV8 : GV f 8) (hV12 : GV f 12) (en wa : Int32) : k_bco f en wa = s_bcoR f en wa := by
  unfold k_bco s_bcoR
  by_cases c : (nI 0 ≤ en ∧ en ≤ nI 1) ∧ ((-200000 : Int32) ≤ wa ∧ wa ≤ nI 200000)
  · rw [if_pos c, if_pos c]
    have hw : wa.toInt.natAbs ≤ 200000 := by
      have h1 := Int32.le_iff_toInt_le.mp c.2.1
      have h2 := Int32.le_iff_toInt_le.mp c.2.2
      have z1 : ((-200000 : Int32)).toInt = -200000 := by decide
      have z2 : (nI 200000).toInt = 200000 := rfl
      omega
    obtain ⟨j, hj, ej⟩ := in_nat (n := 1) (by decide) c.1
    have ec : en.toNatClampNeg = j := by rw [ej]; exact nI_clamp (by omega)
    rw [ec]
    have hV : GV f (8 + 4 * j) := by
      rcases (show j = 0 ∨ j = 1 by omega) with q | q <;> subst q
      · exact hV8
      · exact hV12
    obtain ⟨i, hi, hcan⟩ := own_co hV
    have hp := bc_pos (w := wa) hcan (18 - (i + 1))
    rw [show i + 1 + (18 - (i + 1)) = 18 by omega] at hp
    rcases nc_bc hF hV hj (c0 := f (8 + 4 * j + 1)) hw 18 (Nat.le_refl _) with h | h
    · omega
    · exact h.2.1
  · rw [if_neg c, if_neg c]
theorem nc_bl (hF : GF f) (hV : GV f 12) {c0 : Int32} {w : Int64} (hw : w.toInt.natAbs ≤ 75000001) : ∀ i : Nat, i ≤ 18 →
    ((s_bl f w i).1 = 0 ∧ k_nc (f 12) (f 14) c0 (k_dP f 12 1 w) i = ((9223372036854775807 : Int64), c0)) ∨
    (0 < (s_bl f w i).1 ∧ (k_nc (f 12) (f 14) c0 (k_dP f 12 1 w) i).2 = nI (s_bl f w i).1 ∧ (k_nc (f 12) (f 14) c0 (k_dP f 12 1 w) i).1 = (s_bl f w i).2)
  | 0, _ => Or.inl ⟨rfl, rfl⟩
  | i + 1, hi => by
    have ih := nc_bl hF hV (c0 := c0) hw i (by omega)
    by_cases can : s_can f 1 (nI (i + 1))
    · have hO := can_OE (j := 1) hV (co_iv hi) can
      have ha := ib_ab (j := 1) hF hO hV.2.2.2.1
      have hD : k_dP f 12 1 w (nI (i + 1)) = s_abl (s_pw f (s_ibR f 1 (nI (i + 1))) 1 (nI 60) - w) ∧ (k_dP f 12 1 w (nI (i + 1))).toInt ≤ 400000000 := by
        have e0 : s_ar (k_ic f 12 (nI (i + 1))) 20 = s_ibR f 1 (nI (i + 1)) := ic_eq (j := 1) hF (by decide) hO hV.2.2.2.1
        unfold k_dP
        rw [e0]
        have hp := pw_in hF (en := 1) (by decide) ha (sp := nI 60) ⟨by decide, by decide⟩
        have e1 : (s_pw f (s_ibR f 1 (nI (i + 1))) 1 (nI 60) - w).toInt = (s_pw f (s_ibR f 1 (nI (i + 1))) 1 (nI 60)).toInt - w.toInt := fb_subL (by omega) (by omega)
        rw [abl_n (by omega), e1]
        exact ⟨rfl, by omega⟩
      generalize hDe : k_dP f 12 1 w = D at *
      rcases ih with ⟨b0, k0⟩ | ⟨b0, k1, k2⟩
      · right
        have e1 := s_bl_t (f := f) (i := i) (w := w) can (Or.inl b0)
        have hM : D (nI (i + 1)) < (9223372036854775807 : Int64) := Int64.lt_iff_toInt_lt.mpr (by
          have : (9223372036854775807 : Int64).toInt = 9223372036854775807 := rfl
          omega)
        have e2 : k_nc (f 12) (f 14) c0 D (i + 1) = (D (nI (i + 1)), nI (i + 1)) := by
          have h3 := kn_t1 (va := f 12) (vr := f 14) (c0 := c0) (D := D) (j := i) (zl := (9223372036854775807 : Int64)) (by rw [k0]) can.1 can.2 hM
          exact Prod.ext h3.2.symm h3.1.symm
        rw [e1, e2]
        exact ⟨Nat.succ_pos i, rfl, hD.1⟩
      · by_cases c : s_abl (s_pw f (s_ibR f 1 (nI (i + 1))) 1 (nI 60) - w) < (s_bl f w i).2
        · right
          have e1 := s_bl_t (f := f) (i := i) (w := w) can (Or.inr c)
          have e2 : k_nc (f 12) (f 14) c0 D (i + 1) = (D (nI (i + 1)), nI (i + 1)) := by
            have h3 := kn_t1 (va := f 12) (vr := f 14) (c0 := c0) (D := D) (j := i) rfl can.1 can.2 (by rw [k2, hD.1]; exact c)
            exact Prod.ext h3.2.symm h3.1.symm
          rw [e1, e2]
          exact ⟨Nat.succ_pos i, rfl, hD.1⟩
        · right
          have e1 := s_bl_f (f := f) (i := i) (w := w) (fun q => q.2.elim (fun z => by omega) c)
          have e2 : k_nc (f 12) (f 14) c0 D (i + 1) = k_nc (f 12) (f 14) c0 D i := by
            have h3 := kn_f1 (va := f 12) (vr := f 14) (c0 := c0) (D := D) (j := i) rfl rfl (fun q => c (by rw [← hD.1, ← k2]; exact q.2.2))
            exact Prod.ext h3.2.symm h3.1.symm
          rw [e1, e2]
          exact ⟨b0, k1, k2⟩
    · have e1 := s_bl_f (f := f) (i := i) (w := w) (fun q => can q.1)
      have e2 : k_nc (f 12) (f 14) c0 (k_dP f 12 1 w) (i + 1) = k_nc (f 12) (f 14) c0 (k_dP f 12 1 w) i := by
        have h3 := kn_f1 (va := f 12) (vr := f 14) (c0 := c0) (D := k_dP f 12 1 w) (j := i) rfl rfl (fun q => can ⟨q.1, q.2.1⟩)
        exact Prod.ext h3.2.symm h3.1.symm
      rw [e1, e2]
      exact ih
theorem bl_pos {w : Int64} {i : Nat} (h : s_can f 1 (nI (i + 1))) : ∀ m, 0 < (s_bl f w (i + 1 + m)).1
  | 0 => by
    by_cases c : (s_bl f w i).1 = 0 ∨ s_abl (s_pw f (s_ibR f 1 (nI (i + 1))) 1 (nI 60) - w) < (s_bl f w i).2
    · rw [s_bl_t h c]; exact Nat.succ_pos i
    · have e := s_bl_f (f := f) (i := i) (w := w) (fun q => c q.2)
      show 0 < (s_bl f w (i + 1)).1
      rw [e]
      omega
  | m + 1 => by
    have ih := bl_pos (w := w) h m
    show 0 < (s_bl f w (i + 1 + m + 1)).1
    by_cases c : s_can f 1 (nI (i + 1 + m + 1)) ∧ ((s_bl f w (i + 1 + m)).1 = 0 ∨ s_abl (s_pw f (s_ibR f 1 (nI (i + 1 + m + 1))) 1 (nI 60) - w) < (s_bl f w (i + 1 + m)).2)
    · rw [s_bl_t c.1 c.2]; exact Nat.succ_pos _
    · rw [s_bl_f c]; exact ih
theorem own_OE (hV : GV f (8 + 4 * j)) : OE (f (8 + 4 * j)) (f (8 + 4 * j + 1)) (f (8 + 4 * j + 2)) := by
  obtain ⟨v1, v2, v3, v4, v5, v6⟩ := hV
  exact ⟨iv_w v1 (by decide) (by decide), iv_w v2 (by decide) (by decide), v3, v5, v6⟩
theorem bal_eq (hF : GF f) (hV8 : GV f 8) (hV12 : GV f 12) : k_bal f = s_baR f := by
  have hO := own_OE (j := 0) hV8
  have e0 : s_ar (k_ic f 8 (f 9)) 20 = s_ibR f 0 (f 9) := ic_eq (j := 0) hF (by decide) hO hV8.2.2.2.1
  have hw : (s_baW f).toInt.natAbs ≤ 75000001 := pw_in hF (en := 0) (by decide) (ib_ab (j := 0) hF hO hV8.2.2.2.1) (sp := nI 60) ⟨by decide, by decide⟩
  have e1 : s_pw f (s_ar (k_ic f 8 (f 9)) 20) 0 (nI 60) = s_baW f := by rw [e0]; rfl
  unfold k_bal s_baR
  rw [e1]
  obtain ⟨i, hi, hcan⟩ := own_co (j := 1) hV12
  have hp := bl_pos (w := s_baW f) hcan (18 - (i + 1))
  rw [show i + 1 + (18 - (i + 1)) = 18 by omega] at hp
  rcases nc_bl hF hV12 (c0 := f 13) hw 18 (Nat.le_refl _) with h | h
  · omega
  · exact h.2.1
theorem ia_eq (hF : GF f) (hV8 : GV f 8) (hV12 : GV f 12) (en : Int32) : (if nI 0 ≤ en ∧ en ≤ nI 1 then s_ar (k_ic f (8 + 4 * en.toNatClampNeg) (f (8 + 4 * en.toNatClampNeg + 1))) 20 else cINV) = s_iaR f en := by
  unfold s_iaR
  by_cases c : nI 0 ≤ en ∧ en ≤ nI 1
  · rw [if_pos c, if_pos c]
    obtain ⟨j, hj, ej⟩ := in_nat (n := 1) (by decide) c
    have ec : en.toNatClampNeg = j := by rw [ej]; exact nI_clamp (by omega)
    rw [ec]
    have hV : GV f (8 + 4 * j) := by
      rcases (show j = 0 ∨ j = 1 by omega) with q | q <;> subst q
      · exact hV8
      · exact hV12
    exact ic_eq hF hj (own_OE hV) hV.2.2.2.1
  · rw [if_neg c, if_neg c]
end BEST
