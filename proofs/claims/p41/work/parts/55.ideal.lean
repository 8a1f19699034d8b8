/-! the ideal card: the class's numbers are the reference's -/
/-- part of the way from 0 to D -/
theorem part_way {D t T : Int} (ht : 0 ≤ t) (hT : t ≤ T) (h0 : 0 < T) : (0 ≤ D → 0 ≤ D * t / T ∧ D * t / T ≤ D) ∧ (D ≤ 0 → D ≤ D * t / T ∧ D * t / T ≤ 0) := by
  constructor
  · intro h
    have m1 : D * t ≤ D * T := Int.mul_le_mul_of_nonneg_left hT h
    exact ⟨Int.ediv_nonneg (Int.mul_nonneg h ht) (by omega), Int.ediv_le_of_le_mul h0 m1⟩
  · intro h
    have m1 : D * T ≤ D * t := Int.mul_le_mul_of_nonpos_left h hT
    refine ⟨(Int.le_ediv_iff_mul_le h0).mpr m1, Int.ediv_nonpos_of_nonpos_of_neg ?_ h0⟩
    have m2 : D * t ≤ D * 0 := Int.mul_le_mul_of_nonpos_left h ht
    rw [Int.mul_zero] at m2
    exact m2
section IDL
variable {f : Nat → Int32} {va vc vr lk : Int32}
/-- the events of an ideal card, in their order -/
def OE (va vc vr : Int32) : Prop := iv 0 8 va ∧ iv 1 19 vc ∧ iv 2 20 vr ∧ va.toInt < vc.toInt ∧ vc.toInt < vr.toInt
theorem dk_in (hF : GF f) (hO : OE va vc vr) (hl : iv (-20) 20 lk) : ∀ j : Nat, j ≤ 21 →
    ((s_dk f va vc vr lk j).1.toInt = (k_dk f vc vr lk j).1.toInt ∧ (s_dk f va vc vr lk j).2 = (k_dk f vc vr lk j).2) ∧
    (0 ≤ (k_dk f vc vr lk j).1.toInt ∧ (k_dk f vc vr lk j).1.toInt ≤ (f 0 + vc).toInt * (2000 + 80 * (j : Int))) ∧ (0 ≤ (k_dk f vc vr lk j).2.toInt ∧ (k_dk f vc vr lk j).2.toInt ≤ 5000)
  | 0, _ => by
    obtain ⟨⟨a1, a2⟩, -, -, -, ⟨b1, b2⟩, -⟩ := hF
    obtain ⟨-, ⟨c1, c2⟩, -⟩ := hO
    have ev : (f 0 + vc).toInt = (f 0).toInt + vc.toInt := fb_addI (by omega) (by omega)
    have hm := mul_nn (a := (f 4).toInt) (b := (f 0 + vc).toInt) (A := 2000) (B := 39) (by omega) (by omega) (by omega) (by omega)
    have e1 : (f 4 * (f 0 + vc)).toInt = (f 4).toInt * (f 0 + vc).toInt := fb_mulI (by omega) (by omega)
    have e2 : ((f 4).toInt64 * (f 0 + vc).toInt64).toInt = (f 4).toInt * (f 0 + vc).toInt := by rw [fb_mulL (by rw [t64, t64]; omega) (by rw [t64, t64]; omega), t64, t64]
    refine ⟨⟨?_, rfl⟩, ⟨?_, ?_⟩, ?_, ?_⟩
    · show ((f 4).toInt64 * (f 0 + vc).toInt64).toInt = (f 4 * (f 0 + vc)).toInt
      rw [e1, e2]
    · show 0 ≤ (f 4 * (f 0 + vc)).toInt
      rw [e1]; exact hm.1
    · show (f 4 * (f 0 + vc)).toInt ≤ _
      rw [e1, Int.mul_comm]
      exact Int.mul_le_mul_of_nonneg_left (by omega) (by omega)
    · show 0 ≤ (f 4).toInt
      omega
    · show (f 4).toInt ≤ 5000
      omega
  | j + 1, hj => by
    obtain ⟨⟨i1, i2⟩, ⟨i3, i4⟩, i5, i6⟩ := dk_in hF hO hl j (by omega)
    obtain ⟨h0, -, -, -, ⟨b1, b2⟩, -⟩ := hF
    obtain ⟨⟨o1, o2⟩, ⟨c1, c2⟩, ⟨r1, r2⟩, o3, o4⟩ := hO
    obtain ⟨l1, l2⟩ := hl
    have ev : (f 0 + vc).toInt = (f 0).toInt + vc.toInt := fb_addI (by have := h0.1; have := h0.2; omega) (by have := h0.1; have := h0.2; omega)
    have hv1 : 2 ≤ (f 0 + vc).toInt ∧ (f 0 + vc).toInt ≤ 39 := by have := h0.1; have := h0.2; omega
    have hT : (f 0 + vc).toInt * (j : Int) ≤ (f 0 + vc).toInt * 20 := Int.mul_le_mul_of_nonneg_left (by omega) (by omega)
    have hT0 : 0 ≤ (f 0 + vc).toInt * (j : Int) := Int.mul_nonneg (by omega) (by omega)
    have q1 : (f 0 + vc).toInt * (2000 + 80 * (j : Int)) = 2000 * (f 0 + vc).toInt + 80 * ((f 0 + vc).toInt * (j : Int)) := by
      rw [Int.mul_add, Int.mul_comm _ (2000 : Int), ← Int.mul_assoc, Int.mul_comm _ (80 : Int), Int.mul_assoc]
    have q2 : (f 0 + vc).toInt * (2000 + 80 * ((j + 1 : Nat) : Int)) = 2000 * (f 0 + vc).toInt + 80 * ((f 0 + vc).toInt * (j : Int)) + 80 * (f 0 + vc).toInt := by
      rw [Int.natCast_add, Int.mul_add, Int.mul_add 80, Int.mul_add, Int.mul_comm _ (2000 : Int), ← Int.mul_assoc _ 80, Int.mul_comm _ (80 : Int), Int.mul_assoc]
      show _ + (_ + (f 0 + vc).toInt * (80 * 1)) = _
      omega
    rw [q1] at i4
    rw [q2]
    have en : (nI j).toInt = (j : Int) := nI_toInt (by omega)
    by_cases cr : vr ≤ nI j
    · have cr2 := Int32.le_iff_toInt_le.mp cr
      rw [en] at cr2
      have e1 : k_dk f vc vr lk (j + 1) = k_dk f vc vr lk j := kk_r cr
      have e2 : s_dk f va vc vr lk (j + 1) = s_dk f va vc vr lk j := dk_r (Int32.le_iff_toInt_le.mpr (by rw [en]; omega)) (Int32.lt_iff_toInt_lt.mpr (by rw [en]; omega)) cr
      rw [e1, e2]
      exact ⟨⟨i1, i2⟩, ⟨i3, by omega⟩, i5, i6⟩
    · have cr2 : (j : Int) < vr.toInt := by have := mt Int32.le_iff_toInt_le.mpr cr; rw [en] at this; omega
      by_cases cc : vc < nI j
      · have cc2 := Int32.lt_iff_toInt_lt.mp cc
        rw [en] at cc2
        have vol := vol_in h0 (k := j) (by omega)
        have hv2 := h0.1
        have e1 := kk_x (f := f) (lk := lk) cr cc
        have e2 := dk_x (f := f) (lk := lk) (va := va) (vr := vr) (i := j) (Int32.le_iff_toInt_le.mpr (by rw [en]; omega)) cc (Int32.lt_iff_toInt_lt.mpr (by rw [en]; omega))
        rw [e1, e2]
        have k1 : (nI 1000).toInt = 1000 := rfl
        have k2 : (1000 : Int64).toInt = 1000 := rfl
        generalize hK : (k_dk f vc vr lk j).1 = K at *
        have hKb : K.toInt ≤ 140400 := by omega
        have mk := mul_ab (a := K.toInt) (b := lk.toInt) (A := 140400) (B := 20) (by omega) (by omega)
        have m1 : (K * lk).toInt = K.toInt * lk.toInt := fb_mulI (by omega) (by omega)
        have m2 : ((s_dk f va vc vr lk j).1 * lk.toInt64).toInt = K.toInt * lk.toInt := by rw [fb_mulL (by rw [i1, t64]; omega) (by rw [i1, t64]; omega), i1, t64]
        have g1 : (q_i (K * lk) (nI 1000)).toInt = K.toInt * lk.toInt / 1000 := by rw [qi_d (by rw [k1]; decide), k1, m1]
        have g2 : (s_quo ((s_dk f va vc vr lk j).1 * lk.toInt64) (1000 : Int64)).toInt = K.toInt * lk.toInt / 1000 := by rw [quo_d (by rw [k2]; decide), k2, m2]
        have u1 : K.toInt * lk.toInt ≤ K.toInt * 20 := Int.mul_le_mul_of_nonneg_left l2 i3
        have u2 : K.toInt * (-20) ≤ K.toInt * lk.toInt := Int.mul_le_mul_of_nonneg_left l1 i3
        generalize K.toInt * lk.toInt = W at *
        have s1 : (K + q_i (K * lk) (nI 1000)).toInt = K.toInt + W / 1000 := by rw [fb_addI (by rw [g1]; omega) (by rw [g1]; omega), g1]
        have s2 : ((s_dk f va vc vr lk j).1 + s_quo ((s_dk f va vc vr lk j).1 * lk.toInt64) (1000 : Int64)).toInt = K.toInt + W / 1000 := by rw [fb_addL (by rw [g2, i1]; omega) (by rw [g2, i1]; omega), g2, i1]
        have w0 : 0 ≤ K.toInt + W / 1000 := by omega
        have w1 : K.toInt + W / 1000 ≤ 2000 * (f 0 + vc).toInt + 80 * ((f 0 + vc).toInt * (j : Int)) + 80 * (f 0 + vc).toInt := by omega
        have p1 : (q_i (K + q_i (K * lk) (nI 1000)) (f 0 + nI j)).toInt = (K.toInt + W / 1000) / ((f 0).toInt + (j : Int)) := by rw [qi_d (by omega), s1, vol]
        have hy : (f 0 + nI j).toInt64.toInt = (f 0).toInt + (j : Int) := by rw [t64, vol]
        have p2 : (((s_dk f va vc vr lk j).1 + s_quo ((s_dk f va vc vr lk j).1 * lk.toInt64) (1000 : Int64)) / (f 0 + nI j).toInt64).toInt = (K.toInt + W / 1000) / ((f 0).toInt + (j : Int)) := by
          rw [Int64.toInt_div_of_ne_right _ _ (ne_m1L (by omega)), s2, hy, Int.tdiv_eq_ediv_of_nonneg w0]
        have hq : 0 ≤ (K.toInt + W / 1000) / ((f 0).toInt + (j : Int)) ∧ (K.toInt + W / 1000) / ((f 0).toInt + (j : Int)) ≤ 5000 := by
          refine ⟨Int.ediv_nonneg w0 (by omega), Int.ediv_le_of_le_mul (by omega) ?_⟩
          omega
        refine ⟨⟨?_, ?_⟩, ⟨?_, ?_⟩, ?_, ?_⟩
        · show ((s_dk f va vc vr lk j).1 + s_quo ((s_dk f va vc vr lk j).1 * lk.toInt64) (1000 : Int64)).toInt = (K + q_i (K * lk) (nI 1000)).toInt
          rw [s1, s2]
        · show (((s_dk f va vc vr lk j).1 + s_quo ((s_dk f va vc vr lk j).1 * lk.toInt64) (1000 : Int64)) / (f 0 + nI j).toInt64).toInt32 = q_i (K + q_i (K * lk) (nI 1000)) (f 0 + nI j)
          refine Int32.toInt_inj.mp ?_
          rw [Int64.toInt_toInt32, p2, p1]
          exact fb_bmod (by omega) (by omega)
        · show 0 ≤ (K + q_i (K * lk) (nI 1000)).toInt
          rw [s1]; exact w0
        · show (K + q_i (K * lk) (nI 1000)).toInt ≤ _
          rw [s1]; exact w1
        · show 0 ≤ (q_i (K + q_i (K * lk) (nI 1000)) (f 0 + nI j)).toInt
          rw [p1]; exact hq.1
        · show (q_i (K + q_i (K * lk) (nI 1000)) (f 0 + nI j)).toInt ≤ 5000
          rw [p1]; exact hq.2
      · have cc2 : (j : Int) ≤ vc.toInt := by have := mt Int32.lt_iff_toInt_lt.mpr cc; rw [en] at this; omega
        have e1 : k_dk f vc vr lk (j + 1) = k_dk f vc vr lk j := kk_c cr cc
        have e2 : s_dk f va vc vr lk (j + 1) = s_dk f va vc vr lk j := by
          by_cases ca : nI j < va
          · exact dk_a ca
          · exact dk_c (Int32.not_lt.mp ca) (Int32.not_lt.mp cc)
        rw [e1, e2]
        exact ⟨⟨i1, i2⟩, ⟨i3, by omega⟩, i5, i6⟩
theorem do_eq (hF : GF f) (hO : OE va vc vr) (hl : iv (-20) 20 lk) {j : Nat} (hj : j < 21) : k_do f va vc vr lk j = s_do f va vc vr lk j ∧ iv 0 5000 (k_do f va vc vr lk j) := by
  obtain ⟨⟨-, d2⟩, -, d3⟩ := dk_in hF hO hl j (by omega)
  obtain ⟨⟨-, n2⟩, -, n3⟩ := dk_in hF hO hl (j + 1) (by omega)
  obtain ⟨h0, -, -, -, ⟨b1, b2⟩, ⟨k1, k2⟩, -⟩ := hF
  obtain ⟨⟨o1, o2⟩, ⟨c1, c2⟩, ⟨r1, r2⟩, o3, o4⟩ := hO
  have en : (nI j).toInt = (j : Int) := nI_toInt (by omega)
  by_cases cr : vr ≤ nI j
  · have cr2 := Int32.le_iff_toInt_le.mp cr
    rw [en] at cr2
    rw [ko_r cr, do_r (Int32.le_iff_toInt_le.mpr (by rw [en]; omega)) (Int32.lt_iff_toInt_lt.mpr (by rw [en]; omega)) cr, d2]
    generalize (k_dk f vc vr lk j).2 = E at *
    have z1 : (nI 1).toInt = 1 := rfl
    have z21 : (nI 21).toInt = 21 := rfl
    have e1 : (f 5 - E).toInt = (f 5).toInt - E.toInt := fb_subI (by omega) (by omega)
    have e2 : (nI j - vr).toInt = (j : Int) - vr.toInt := by rw [fb_subI (by rw [en]; omega) (by rw [en]; omega), en]
    have e3 : (nI j - vr + nI 1).toInt = (j : Int) - vr.toInt + 1 := by rw [fb_addI (by rw [e2, z1]; omega) (by rw [e2, z1]; omega), e2, z1]
    have e4 : (nI 21 - vr).toInt = 21 - vr.toInt := by rw [fb_subI (by rw [z21]; omega) (by rw [z21]; omega), z21]
    have mk := mul_ab (a := (f 5 - E).toInt) (b := (nI j - vr + nI 1).toInt) (A := 5000) (B := 21) (by omega) (by omega)
    have m1 : ((f 5 - E) * (nI j - vr + nI 1)).toInt = (f 5 - E).toInt * (nI j - vr + nI 1).toInt := fb_mulI (by omega) (by omega)
    have g1 : (q_i ((f 5 - E) * (nI j - vr + nI 1)) (nI 21 - vr)).toInt = ((f 5).toInt - E.toInt) * ((j : Int) - vr.toInt + 1) / (21 - vr.toInt) := by rw [qi_d (by omega), m1, e1, e3, e4]
    have w := part_way (D := (f 5).toInt - E.toInt) (t := (j : Int) - vr.toInt + 1) (T := 21 - vr.toInt) (by omega) (by omega) (by omega)
    refine ⟨?_, ?_⟩
    · congr 1
      refine (quo_I64 _ _ _ ?_ (by omega)).symm
      rw [fb_mulL (by rw [t64, t64]; omega) (by rw [t64, t64]; omega), t64, t64, m1]
    · unfold iv
      rcases Int.le_total 0 ((f 5).toInt - E.toInt) with c | c
      · have := w.1 c
        rw [fb_addI (by rw [g1]; omega) (by rw [g1]; omega), g1]
        omega
      · have := w.2 c
        rw [fb_addI (by rw [g1]; omega) (by rw [g1]; omega), g1]
        omega
  · have cr2 : (j : Int) < vr.toInt := by have := mt Int32.le_iff_toInt_le.mpr cr; rw [en] at this; omega
    by_cases cc : vc < nI j
    · have cc2 := Int32.lt_iff_toInt_lt.mp cc
      rw [en] at cc2
      have x1 : k_do f va vc vr lk j = (k_dk f vc vr lk (j + 1)).2 := by unfold k_do; rw [if_neg cr, if_pos cc]
      have x2 : s_do f va vc vr lk j = (s_dk f va vc vr lk (j + 1)).2 := by
        unfold s_do
        rw [if_neg (Int32.not_lt.mpr (Int32.le_iff_toInt_le.mpr (by rw [en]; omega))), if_neg (Int32.not_le.mpr cc), if_pos (Int32.lt_iff_toInt_lt.mpr (by rw [en]; omega))]
      rw [x1, x2, n2]
      exact ⟨rfl, n3⟩
    · by_cases ca : nI j < va
      · rw [ko_a cr cc (Int32.not_le.mpr ca), do_a ca]
        exact ⟨rfl, by omega, by omega⟩
      · rw [ko_b cr cc (Int32.not_lt.mp ca), do_c (Int32.not_lt.mp ca) (Int32.not_lt.mp cc)]
        exact ⟨rfl, by omega, by omega⟩
theorem di_eq {vm : Int32} (hF : GF f) (hm : iv 0 19 vm) {j : Nat} (hj : j < 21) : k_di f vm j = s_di f vm j ∧ iv 0 5000 (k_di f vm j) := by
  obtain ⟨h0, -, -, -, -, ⟨k1, k2⟩, -⟩ := hF
  have hv := h0.1
  have hv2 := h0.2
  obtain ⟨m1, m2⟩ := hm
  have vol := vol_in h0 (k := j) (by omega)
  unfold k_di s_di
  by_cases c : nI j < vm
  · rw [if_pos c, if_pos c]
    have e1 : (f 0 + vm).toInt = (f 0).toInt + vm.toInt := fb_addI (by omega) (by omega)
    have mm := mul_nn (a := (f 5).toInt) (b := (f 0 + vm).toInt) (A := 99) (B := 39) (by omega) (by omega) (by omega) (by omega)
    have e2 : (f 5 * (f 0 + vm)).toInt = (f 5).toInt * (f 0 + vm).toInt := fb_mulI (by omega) (by omega)
    have e3 := q_i_pos (d := f 5 * (f 0 + vm)) (k := f 0 + nI j) (by omega) (by omega)
    refine ⟨e3, ?_⟩
    unfold iv
    rw [qi_d (by omega), e2, vol]
    have := ediv_bd (X := (f 5).toInt * (f 0 + vm).toInt) (K := (f 0).toInt + (j : Int)) (B := 5000) (by omega) (by omega) (by omega) (by decide)
    exact ⟨Int.ediv_nonneg mm.1 (by omega), this.2⟩
  · rw [if_neg c, if_neg c]
    exact ⟨rfl, by omega, by omega⟩
/-- the areas with a cut-off -/
theorem ic_eq (hF : GF f) {j : Nat} (hj : j ≤ 1) {co : Int32} (hO : OE (f (8 + 4 * j)) co (f (8 + 4 * j + 2))) (hm : iv 0 19 (f (8 + 4 * j + 3))) : s_ar (k_ic f (8 + 4 * j) co) 20 = s_ibR f j co := by
  rw [s_ibR_ip]
  refine s_ar_eq 20 (by omega) (fun k hk => ?_)
  unfold k_ic s_ip
  have hl : iv (-20) 20 (nI 0) := ⟨by decide, by decide⟩
  by_cases c : k < 21
  · rw [if_pos c, if_pos c]
    exact (do_eq hF hO hl c).1
  · rw [if_neg c, if_neg c]
    exact (di_eq hF hm (by omega)).1
end IDL
