theorem abs_size (x : Int32) : (if 0 ≤ x then x else 0 - x) = s_size x := by
  unfold s_size
  by_cases h : (0 : Int32) ≤ x
  · rw [if_pos h, if_neg (show ¬ x < nI 0 from Int32.not_lt.mpr h)]
  · rw [if_neg h, if_pos (show x < nI 0 from Int32.not_le.mp h)]
    exact Int32.zero_sub x
theorem abs_l (x : Int64) : (if 0 < x then x else -x) = s_abl x := by
  unfold s_abl
  by_cases h : x < lN 0
  · rw [if_pos h, if_neg (show ¬ (0 : Int64) < x from fun q => absurd (Int64.lt_trans h q) Int64.lt_irrefl)]
  · rw [if_neg h]
    by_cases h2 : (0 : Int64) < x
    · rw [if_pos h2]
    · rw [if_neg h2]
      have h3 : x = 0 := Int64.le_antisymm (Int64.not_lt.mp h2) (Int64.not_lt.mp h)
      rw [h3]
      decide
theorem pa_eq {f : Nat → Int32} {en : Nat} (h : en ≤ 1) : (if nI en = nI 0 then f 1 else f 2) = f (1 + en) := by
  rcases (show en = 0 ∨ en = 1 by omega) with q | q
  · subst q; exact if_pos rfl
  · subst q; exact if_neg (by decide)
theorem sel_eq (f : Nat → Int32) (b : Nat) {k : Nat} (h : k < 4) : k_sel (f b) (f (b + 1)) (f (b + 2)) (f (b + 3)) k = f (b + k) := by
  rcases (show k = 0 ∨ k = 1 ∨ k = 2 ∨ k = 3 by omega) with q | q | q | q <;> subst q <;> rfl
theorem L_X4_X4_quotient : LnkS RX4 212 yX4_quotient cX4_quotient 2 (some .int) 2 := ⟨w_289, w_290, w_25, w_291, ⟨by decide +kernel, by decide +kernel⟩, by decide +kernel⟩
set_option maxHeartbeats 4000000 in
set_option maxRecDepth 100000 in
theorem c_X4_meanPressure (l : Launch) (g : kG) (x : Nat → Nat) (a : Nat → Nat) (n : Nat) (f : Nat → Int32) (cn : Nat) (rf : Nat → Option Nat) (hc : f 61 = nI cn) (hcn : cn ≤ 10) (v : Int32) (hR : ∀ j, j < cn → ∀ k, k ≤ 20 → rg (s_df (s_pt f j) k)) : PI l yX4_meanPressure cX4_meanPressure 2 (some .int) (rr 2 43) [.ref (x 0), .int (v)] ((XB g x a n f cn rf)) g (if s_okC f v then (s_quo ((s_ar (s_pt f (v).toNatClampNeg) 20).toInt64 * (1000 : Int64)) (40 : Int64)).toInt32 else cINV) := by
  refine kOf (by decide) (Nat.le_of_ble_eq_true rfl) (fun p e s m below meth c ls hC hr hlk hin hK hP hl => ?_)
  have hx := hC.1
  have hb := hC.2.1
  have hml := hC.2.2.1
  have hown := hC.2.2.2.1
  have hts := hC.2.2.2.2
  have hl : lv_has ls 2 [(0, .ref (x 0)), (1, .int (v))] := hl
  refine lv_aload_n hx hb dX4_meanPressure_0 rfl (lvG hl rfl) ?_
  refine lv_iload_n hx hb dX4_meanPressure_1 rfl (lvG hl rfl) ?_
  refine k_callPI (k_goV (rest := []) hC hK (c_X4_isCard l g x a n f cn rf hc hcn v) L_X4_X4_isCard (⟨⟨Nat.le_of_ble_eq_true rfl, Nat.le_of_ble_eq_true rfl⟩, ⟨rfl, rfl⟩, ⟨Nat.le_of_ble_eq_true rfl, Nat.le_of_ble_eq_true rfl⟩⟩) (k_recv hK hP.1 0 rfl rfl) (hP) rfl hl.1 rfl (Nat.le_of_ble_eq_true rfl) dX4_meanPressure_2) ?_
  refine b_ifne (tgt := 11) hC dX4_meanPressure_5 (by decide) (fun zc5 => ?_) (fun zc5 => ?_)
  · obtain ⟨zj, h_zj, ev_zj⟩ := in_card (v := v) hcn hc (zc5)
    have e_zj : (v).toNatClampNeg = zj := by rw [ev_zj]; exact nI_clamp (by omega)
    have hl : lv_has ls 2 [(0, .ref (x 0)), (1, .int (nI zj))] := lv_eq hl (by rw [ev_zj])
    obtain ⟨qj, qoj, qij, hrf, hcd, hn1, hn2, hn3⟩ := hP.2.2 zj (by first | assumption | omega)
    refine lv_aload_n hx hb dX4_meanPressure_11 rfl (lvG hl rfl) ?_
    refine va_get (D := g.1) (ci := 4) (v := .ref (a 0)) (C := RX4) (T := TX4) (N := 7) hx hb hts i_X4 hown hK.1 hP.1 0 rfl rfl 0 (by decide) (hts _ w_175) (fun _ h9 => h9) rfl dX4_meanPressure_12 ?_
    refine va_get (D := g.1) (ci := 3) (v := .ref (a 6)) (C := RX3) (T := TX3) (N := 13) hx hb hts i_X3 hown hK.1 hP.1 1 rfl rfl 11 (by decide) (hts _ w_144) (fun _ h9 => h9) rfl dX4_meanPressure_15 ?_
    refine lv_iload_n hx hb dX4_meanPressure_18 rfl (lvG hl rfl) ?_
    refine q_ald (k := zj) (b := qj) hC hK hP.1 4 rfl (by omega) (by decide) (hrf) dX4_meanPressure_19 ?_
    refine k_callPI (k_goV (rest := []) hC hK (c_X0_wholeArea l g qj qoj qij (f (62 + 44 * zj)) (f (62 + 44 * zj + 1)) ((s_pt f zj))) L_X4_X0_wholeArea (⟨⟨Nat.le_of_ble_eq_true rfl, Nat.le_of_ble_eq_true rfl⟩, ⟨rfl, rfl⟩, ⟨Nat.le_of_ble_eq_true rfl, Nat.le_of_ble_eq_true rfl⟩⟩) (k_recv hK hcd 0 rfl rfl) (hcd) rfl hl.1 rfl (Nat.le_of_ble_eq_true rfl) dX4_meanPressure_20) ?_
    refine lv_sipush (v := nI 1000) hx hb dX4_meanPressure_23 (by decide) ?_
    refine lv_imul hx hb dX4_meanPressure_26 ?_
    refine lv_bipush (v := nI 40) hx hb dX4_meanPressure_27 (by decide) ?_
    refine k_callPI (k_goS (rest := []) hC hK (c_X4_quotient l g ((s_ar ((s_pt f zj)) 20) * (nI 1000)) (nI 40)) L_X4_X4_quotient (⟨⟨Nat.le_of_ble_eq_true rfl, Nat.le_of_ble_eq_true rfl⟩, ⟨rfl, rfl⟩, ⟨Nat.le_of_ble_eq_true rfl, Nat.le_of_ble_eq_true rfl⟩⟩) (trivial) rfl hl.1 rfl (Nat.le_of_ble_eq_true rfl) dX4_meanPressure_29) ?_
    exact k_iret hC hr hlk dX4_meanPressure_32 (by first | (rw [if_neg zc5]; done) | (rw [if_pos zc5, e_zj, mp_eq _ (hR zj h_zj)]; done) | (rw [if_pos zc5, e_zj, mp_eq _ (hR zj h_zj)]; rfl))
  · refine lv_ldc (v := (-2000000001 : Int32)) hx hb hown (hts _ w_204) dX4_meanPressure_8 ?_
    exact k_iret hC hr hlk dX4_meanPressure_10 (by first | (rw [if_neg zc5]; done) | (rw [if_pos zc5, e_zj, mp_eq _ (hR zj h_zj)]; done) | (rw [if_pos zc5, e_zj, mp_eq _ (hR zj h_zj)]; rfl))
theorem L_X4_X4_isStation : LnkS RX4 133 yX4_isStation cX4_isStation 1 (some .boolean) 1 := ⟨w_264, w_265, w_25, w_266, ⟨by decide +kernel, by decide +kernel⟩, by decide +kernel⟩
set_option maxHeartbeats 4000000 in
set_option maxRecDepth 100000 in
theorem c_X4_constant (l : Launch) (g : kG) (x : Nat → Nat) (a : Nat → Nat) (n : Nat) (f : Nat → Int32) (cn : Nat) (rf : Nat → Option Nat) (hc : f 61 = nI cn) (hcn : cn ≤ 10) (v : Int32) (st : Int32) : PI l yX4_constant cX4_constant 3 (some .int) (rr 2 43) [.ref (x 0), .int (v), .int (st)] ((XB g x a n f cn rf)) g (if s_okC f v ∧ (nI 0 ≤ st ∧ st ≤ nI 20) then s_kc f (s_pt f (v).toNatClampNeg) (st).toNatClampNeg else cINV) := by
  refine kOf (by decide) (Nat.le_of_ble_eq_true rfl) (fun p e s m below meth c ls hC hr hlk hin hK hP hl => ?_)
  have hx := hC.1
  have hb := hC.2.1
  have hml := hC.2.2.1
  have hown := hC.2.2.2.1
  have hts := hC.2.2.2.2
  have hl : lv_has ls 3 [(0, .ref (x 0)), (1, .int (v)), (2, .int (st))] := hl
  refine lv_aload_n hx hb dX4_constant_0 rfl (lvG hl rfl) ?_
  refine lv_iload_n hx hb dX4_constant_1 rfl (lvG hl rfl) ?_
  refine k_callPI (k_goV (rest := []) hC hK (c_X4_isCard l g x a n f cn rf hc hcn v) L_X4_X4_isCard (⟨⟨Nat.le_of_ble_eq_true rfl, Nat.le_of_ble_eq_true rfl⟩, ⟨rfl, rfl⟩, ⟨Nat.le_of_ble_eq_true rfl, Nat.le_of_ble_eq_true rfl⟩⟩) (k_recv hK hP.1 0 rfl rfl) (hP) rfl hl.1 rfl (Nat.le_of_ble_eq_true rfl) dX4_constant_2) ?_
  refine b_ifeq (tgt := 15) hC dX4_constant_5 (by decide) (fun zc5 => ?_) (fun zc5 => ?_)
  · refine lv_ldc (v := (-2000000001 : Int32)) hx hb hown (hts _ w_204) dX4_constant_15 ?_
    exact k_iret hC hr hlk dX4_constant_17 (by first | (rw [if_pos ⟨zc5, zc12⟩, e_zj, e_zk]; done) | (rw [if_neg (fun q => zc5 q.1)]; done) | (rw [if_neg (fun q => zc12 q.2)]; done))
  · refine lv_iload_n hx hb dX4_constant_8 rfl (lvG hl rfl) ?_
    refine k_callPI (k_goS (rest := []) hC hK (c_X4_isStation l g st) L_X4_X4_isStation (⟨⟨Nat.le_of_ble_eq_true rfl, Nat.le_of_ble_eq_true rfl⟩, ⟨rfl, rfl⟩, ⟨Nat.le_of_ble_eq_true rfl, Nat.le_of_ble_eq_true rfl⟩⟩) (trivial) rfl hl.1 rfl (Nat.le_of_ble_eq_true rfl) dX4_constant_9) ?_
    refine b_ifne (tgt := 18) hC dX4_constant_12 (by decide) (fun zc12 => ?_) (fun zc12 => ?_)
    · obtain ⟨zj, h_zj, ev_zj⟩ := in_card (v := v) hcn hc (zc5)
      have e_zj : (v).toNatClampNeg = zj := by rw [ev_zj]; exact nI_clamp (by omega)
      have hl : lv_has ls 3 [(0, .ref (x 0)), (1, .int (nI zj)), (2, .int (st))] := lv_eq hl (by rw [ev_zj])
      obtain ⟨qj, qoj, qij, hrf, hcd, hn1, hn2, hn3⟩ := hP.2.2 zj (by first | assumption | omega)
      obtain ⟨zk, h_zk, ev_zk⟩ := in_nat (by decide) (zc12)
      have e_zk : (st).toNatClampNeg = zk := by rw [ev_zk]; exact nI_clamp (by omega)
      have hl : lv_has ls 3 [(0, .ref (x 0)), (1, .int (nI zj)), (2, .int (nI zk))] := lv_eq hl (by rw [ev_zk])
      refine lv_aload_n hx hb dX4_constant_18 rfl (lvG hl rfl) ?_
      refine lv_aload_n hx hb dX4_constant_19 rfl (lvG hl rfl) ?_
      refine va_get (D := g.1) (ci := 4) (v := .ref (a 0)) (C := RX4) (T := TX4) (N := 7) hx hb hts i_X4 hown hK.1 hP.1 0 rfl rfl 0 (by decide) (hts _ w_175) (fun _ h9 => h9) rfl dX4_constant_20 ?_
      refine va_get (D := g.1) (ci := 3) (v := .ref (a 6)) (C := RX3) (T := TX3) (N := 13) hx hb hts i_X3 hown hK.1 hP.1 1 rfl rfl 11 (by decide) (hts _ w_144) (fun _ h9 => h9) rfl dX4_constant_23 ?_
      refine lv_iload_n hx hb dX4_constant_26 rfl (lvG hl rfl) ?_
      refine q_ald (k := zj) (b := qj) hC hK hP.1 4 rfl (by omega) (by decide) (hrf) dX4_constant_27 ?_
      refine lv_iload_n hx hb dX4_constant_28 rfl (lvG hl rfl) ?_
      refine k_callPI (k_goV (rest := []) hC hK (c_X4_constantAt l g x a n f cn rf qj qoj qij (f (62 + 44 * zj)) (f (62 + 44 * zj + 1)) ((s_pt f zj)) zk (by first | assumption | omega)) L_X4_X4_constantAt (⟨⟨Nat.le_of_ble_eq_true rfl, Nat.le_of_ble_eq_true rfl⟩, ⟨rfl, rfl⟩, ⟨Nat.le_of_ble_eq_true rfl, Nat.le_of_ble_eq_true rfl⟩⟩) (k_recv hK hP.1 0 rfl rfl) (⟨hP, hcd⟩) rfl hl.1 rfl (Nat.le_of_ble_eq_true rfl) dX4_constant_29) ?_
      exact k_iret hC hr hlk dX4_constant_32 (by first | (rw [if_pos ⟨zc5, zc12⟩, e_zj, e_zk]; done) | (rw [if_neg (fun q => zc5 q.1)]; done) | (rw [if_neg (fun q => zc12 q.2)]; done))
    · refine lv_ldc (v := (-2000000001 : Int32)) hx hb hown (hts _ w_204) dX4_constant_15 ?_
      exact k_iret hC hr hlk dX4_constant_17 (by first | (rw [if_pos ⟨zc5, zc12⟩, e_zj, e_zk]; done) | (rw [if_neg (fun q => zc5 q.1)]; done) | (rw [if_neg (fun q => zc12 q.2)]; done))
theorem L_X4_X3_pistonAreaOf : LnkV RX4 62 yX3_pistonAreaOf cX3_pistonAreaOf 2 (some .int) 1 := ⟨w_458, w_459, w_460, w_28, w_461, ⟨by decide +kernel, by decide +kernel⟩, by decide +kernel⟩
theorem L_X4_X4_longQuotient : LnkS RX4 257 yX4_longQuotient cX4_longQuotient 4 (some .long) 2 := ⟨w_463, w_464, w_25, w_465, ⟨by decide +kernel, by decide +kernel⟩, by decide +kernel⟩
set_option maxHeartbeats 4000000 in
set_option maxRecDepth 100000 in
theorem c_X4_powerFrom (l : Launch) (g : kG) (x : Nat → Nat) (a : Nat → Nat) (n : Nat) (f : Nat → Int32) (cn : Nat) (rf : Nat → Option Nat) (hc : f 61 = nI cn) (hcn : cn ≤ 10) (ar : Int32) (en : Nat) (sp : Int32) (hen : en ≤ 1) : PL l yX4_powerFrom cX4_powerFrom 6 (some .long) (rr 2 48) [.ref (x 0), .int (ar), .int (nI en), .int (sp)] ((XB g x a n f cn rf)) g (s_pw f ar en sp) := by
  refine kOf (by decide) (Nat.le_of_ble_eq_true rfl) (fun p e s m below meth c ls hC hr hlk hin hK hP hl => ?_)
  have hx := hC.1
  have hb := hC.2.1
  have hml := hC.2.2.1
  have hown := hC.2.2.2.1
  have hts := hC.2.2.2.2
  have hl : lv_has ls 6 [(0, .ref (x 0)), (1, .int (ar)), (2, .int (nI en)), (3, .int (sp))] := hl
  refine lv_iload_n hx hb dX4_powerFrom_0 rfl (lvG hl rfl) ?_
  refine lv_i2l (v := (ar).toInt64) hx hb dX4_powerFrom_1 rfl ?_
  refine lv_aload_n hx hb dX4_powerFrom_2 rfl (lvG hl rfl) ?_
  refine va_get (D := g.1) (ci := 4) (v := .ref (a 0)) (C := RX4) (T := TX4) (N := 7) hx hb hts i_X4 hown hK.1 hP.1 0 rfl rfl 0 (by decide) (hts _ w_175) (fun _ h9 => h9) rfl dX4_powerFrom_3 ?_
  refine lv_iload_n hx hb dX4_powerFrom_6 rfl (lvG hl rfl) ?_
  refine k_callPI (k_goV (rest := [.long ((ar).toInt64)]) hC hK (c_X3_pistonAreaOf l g a f (nI en)) L_X4_X3_pistonAreaOf (⟨⟨Nat.le_of_ble_eq_true rfl, Nat.le_of_ble_eq_true rfl⟩, ⟨rfl, rfl⟩, ⟨Nat.le_of_ble_eq_true rfl, Nat.le_of_ble_eq_true rfl⟩⟩) (k_recv hK hP.1 1 rfl rfl) ((hP.1.sub [1] rfl)) rfl hl.1 rfl (Nat.le_of_ble_eq_true rfl) dX4_powerFrom_7) ?_
  rw [pa_eq hen]
  refine lv_i2l (v := (f (1 + en)).toInt64) hx hb dX4_powerFrom_10 rfl ?_
  refine lv_lmul hx hb dX4_powerFrom_11 ?_
  refine lv_aload_n hx hb dX4_powerFrom_12 rfl (lvG hl rfl) ?_
  refine va_get (D := g.1) (ci := 4) (v := .ref (a 0)) (C := RX4) (T := TX4) (N := 7) hx hb hts i_X4 hown hK.1 hP.1 0 rfl rfl 0 (by decide) (hts _ w_175) (fun _ h9 => h9) rfl dX4_powerFrom_13 ?_
  refine va_get (D := g.1) (ci := 3) (v := .int (f 3)) (C := RX3) (T := TX3) (N := 13) hx hb hts i_X3 hown hK.1 hP.1 1 rfl rfl 3 (by decide) (hts _ w_129) (fun _ h9 => h9) rfl dX4_powerFrom_16 ?_
  refine lv_i2l (v := (f 3).toInt64) hx hb dX4_powerFrom_19 rfl ?_
  refine lv_lmul hx hb dX4_powerFrom_20 ?_
  refine lv_lstore (lv' := [(4, .long ((((ar).toInt64) * ((f (1 + en)).toInt64)) * ((f 3).toInt64))), (0, .ref (x 0)), (1, .int (ar)), (2, .int (nI en)), (3, .int (sp))]) hx hb dX4_powerFrom_21 hl (by decide) rfl (fun ls hl => ?_)
  refine lv_lload hx hb dX4_powerFrom_23 (lvG hl rfl) ?_
  refine lv_iload_n hx hb dX4_powerFrom_25 rfl (lvG hl rfl) ?_
  refine lv_i2l (v := (sp).toInt64) hx hb dX4_powerFrom_26 rfl ?_
  refine lv_lmul hx hb dX4_powerFrom_27 ?_
  refine lv_ldc2 (v := (2400000 : Int64)) hx hb hown (hts _ w_462) dX4_powerFrom_28 ?_
  refine k_callPL (k_goS (rest := []) hC hK (c_X4_longQuotient l g (((((ar).toInt64) * ((f (1 + en)).toInt64)) * ((f 3).toInt64)) * ((sp).toInt64)) ((2400000 : Int64))) L_X4_X4_longQuotient (⟨⟨Nat.le_of_ble_eq_true rfl, Nat.le_of_ble_eq_true rfl⟩, ⟨rfl, rfl⟩, ⟨Nat.le_of_ble_eq_true rfl, Nat.le_of_ble_eq_true rfl⟩⟩) (trivial) rfl hl.1 rfl (Nat.le_of_ble_eq_true rfl) dX4_powerFrom_31) ?_
  exact k_lret hC hr hlk dX4_powerFrom_34 (by unfold s_pw; exact quo_L _ _ (by decide))
theorem L_X4_X4_powerFrom : LnkV RX4 280 yX4_powerFrom cX4_powerFrom 6 (some .long) 3 := ⟨w_454, w_456, w_18, w_25, w_457, ⟨by decide +kernel, by decide +kernel⟩, by decide +kernel⟩
set_option maxHeartbeats 4000000 in
set_option maxRecDepth 100000 in
theorem c_X4_powerOfCard (l : Launch) (g : kG) (x : Nat → Nat) (a : Nat → Nat) (n : Nat) (f : Nat → Int32) (cn : Nat) (rf : Nat → Option Nat) (qc : Nat) (qo : Nat) (qi : Nat) (e0 : Int32) (sp : Int32) (p0 : Nat → Int32) (hc : f 61 = nI cn) (hcn : cn ≤ 10) (en0 : Nat) (he0 : e0 = nI en0) (hen0 : en0 ≤ 1) : PL l yX4_powerOfCard cX4_powerOfCard 2 (some .long) (rr 3 73) [.ref (x 0), .ref qc] ((fun H => XB g x a n f cn rf H ∧ va_P g.1 kCl (wC g qc qo qi e0 sp p0) H)) g (s_pw f (s_ar p0 20) en0 sp) := by
  refine kOf (by decide) (Nat.le_of_ble_eq_true rfl) (fun p e s m below meth c ls hC hr hlk hin hK hP hl => ?_)
  have hx := hC.1
  have hb := hC.2.1
  have hml := hC.2.2.1
  have hown := hC.2.2.2.1
  have hts := hC.2.2.2.2
  have hl : lv_has ls 2 [(0, .ref (x 0)), (1, .ref qc)] := hl
  refine lv_aload_n hx hb dX4_powerOfCard_0 rfl (lvG hl rfl) ?_
  refine lv_aload_n hx hb dX4_powerOfCard_1 rfl (lvG hl rfl) ?_
  refine k_callPI (k_goV (rest := [.ref (x 0)]) hC hK (c_X0_wholeArea l g qc qo qi e0 sp p0) L_X4_X0_wholeArea (⟨⟨Nat.le_of_ble_eq_true rfl, Nat.le_of_ble_eq_true rfl⟩, ⟨rfl, rfl⟩, ⟨Nat.le_of_ble_eq_true rfl, Nat.le_of_ble_eq_true rfl⟩⟩) (k_recv hK hP.2 0 rfl rfl) (hP.2) rfl hl.1 rfl (Nat.le_of_ble_eq_true rfl) dX4_powerOfCard_2) ?_
  refine lv_aload_n hx hb dX4_powerOfCard_5 rfl (lvG hl rfl) ?_
  refine va_get (D := g.1) (ci := 0) (v := .int (e0)) (C := RX0) (T := TX0) (N := 4) hx hb hts i_X0 hown hK.1 hP.2 0 rfl rfl 0 (by decide) (hts _ w_46) (fun _ h9 => h9) rfl dX4_powerOfCard_6 ?_
  rw [he0]
  refine lv_aload_n hx hb dX4_powerOfCard_9 rfl (lvG hl rfl) ?_
  refine va_get (D := g.1) (ci := 0) (v := .int (sp)) (C := RX0) (T := TX0) (N := 4) hx hb hts i_X0 hown hK.1 hP.2 0 rfl rfl 1 (by decide) (hts _ w_47) (fun _ h9 => h9) rfl dX4_powerOfCard_10 ?_
  refine k_callPL (k_goV (rest := []) hC hK (c_X4_powerFrom l g x a n f cn rf hc hcn (s_ar p0 20) en0 sp (hen0)) L_X4_X4_powerFrom (⟨⟨Nat.le_of_ble_eq_true rfl, Nat.le_of_ble_eq_true rfl⟩, ⟨rfl, rfl⟩, ⟨Nat.le_of_ble_eq_true rfl, Nat.le_of_ble_eq_true rfl⟩⟩) (k_recv hK hP.1.1 0 rfl rfl) (hP.1) rfl hl.1 rfl (Nat.le_of_ble_eq_true rfl) dX4_powerOfCard_13) ?_
  exact k_lret hC hr hlk dX4_powerOfCard_16 (by first | rfl | grind [] | grind [nI])
theorem L_X4_X4_powerOfCard : LnkV RX4 216 yX4_powerOfCard cX4_powerOfCard 2 (some .long) 1 := ⟨w_450, w_452, w_17, w_25, w_453, ⟨by decide +kernel, by decide +kernel⟩, by decide +kernel⟩
set_option maxHeartbeats 4000000 in
set_option maxRecDepth 100000 in
theorem c_X4_power (l : Launch) (g : kG) (x : Nat → Nat) (a : Nat → Nat) (n : Nat) (f : Nat → Int32) (cn : Nat) (rf : Nat → Option Nat) (hc : f 61 = nI cn) (hcn : cn ≤ 10) (v : Int32) (hE : ∀ j, j < cn → f (62 + 44 * j) = nI (s_en f j) ∧ s_en f j ≤ 1) : PL l yX4_power cX4_power 2 (some .long) (rr 4 94) [.ref (x 0), .int (v)] ((XB g x a n f cn rf)) g (if s_okC f v then s_pc f (v).toNatClampNeg else (-2000000001 : Int64)) := by
  refine kOf (by decide) (Nat.le_of_ble_eq_true rfl) (fun p e s m below meth c ls hC hr hlk hin hK hP hl => ?_)
  have hx := hC.1
  have hb := hC.2.1
  have hml := hC.2.2.1
  have hown := hC.2.2.2.1
  have hts := hC.2.2.2.2
  have hl : lv_has ls 2 [(0, .ref (x 0)), (1, .int (v))] := hl
  refine lv_aload_n hx hb dX4_power_0 rfl (lvG hl rfl) ?_
  refine lv_iload_n hx hb dX4_power_1 rfl (lvG hl rfl) ?_
  refine k_callPI (k_goV (rest := []) hC hK (c_X4_isCard l g x a n f cn rf hc hcn v) L_X4_X4_isCard (⟨⟨Nat.le_of_ble_eq_true rfl, Nat.le_of_ble_eq_true rfl⟩, ⟨rfl, rfl⟩, ⟨Nat.le_of_ble_eq_true rfl, Nat.le_of_ble_eq_true rfl⟩⟩) (k_recv hK hP.1 0 rfl rfl) (hP) rfl hl.1 rfl (Nat.le_of_ble_eq_true rfl) dX4_power_2) ?_
  refine b_ifeq (tgt := 24) hC dX4_power_5 (by decide) (fun zc5 => ?_) (fun zc5 => ?_)
  · refine lv_ldc2 (v := (-2000000001 : Int64)) hx hb hown (hts _ w_444) dX4_power_24 ?_
    exact k_lret hC hr hlk dX4_power_27 (by first | (rw [if_neg zc5]; done) | (rw [if_pos zc5, e_zj]; done) | (rw [if_pos zc5, e_zj]; rfl))
  · obtain ⟨zj, h_zj, ev_zj⟩ := in_card (v := v) hcn hc (zc5)
    have e_zj : (v).toNatClampNeg = zj := by rw [ev_zj]; exact nI_clamp (by omega)
    have hl : lv_has ls 2 [(0, .ref (x 0)), (1, .int (nI zj))] := lv_eq hl (by rw [ev_zj])
    obtain ⟨qj, qoj, qij, hrf, hcd, hn1, hn2, hn3⟩ := hP.2.2 zj (by first | assumption | omega)
    refine lv_aload_n hx hb dX4_power_8 rfl (lvG hl rfl) ?_
    refine lv_aload_n hx hb dX4_power_9 rfl (lvG hl rfl) ?_
    refine va_get (D := g.1) (ci := 4) (v := .ref (a 0)) (C := RX4) (T := TX4) (N := 7) hx hb hts i_X4 hown hK.1 hP.1 0 rfl rfl 0 (by decide) (hts _ w_175) (fun _ h9 => h9) rfl dX4_power_10 ?_
    refine va_get (D := g.1) (ci := 3) (v := .ref (a 6)) (C := RX3) (T := TX3) (N := 13) hx hb hts i_X3 hown hK.1 hP.1 1 rfl rfl 11 (by decide) (hts _ w_144) (fun _ h9 => h9) rfl dX4_power_13 ?_
    refine lv_iload_n hx hb dX4_power_16 rfl (lvG hl rfl) ?_
    refine q_ald (k := zj) (b := qj) hC hK hP.1 4 rfl (by omega) (by decide) (hrf) dX4_power_17 ?_
    refine k_callPL (k_goV (rest := []) hC hK (c_X4_powerOfCard l g x a n f cn rf qj qoj qij (f (62 + 44 * zj)) (f (62 + 44 * zj + 1)) ((s_pt f zj)) hc hcn (s_en f zj) ((hE zj (by first | assumption | omega)).1) ((hE zj (by first | assumption | omega)).2)) L_X4_X4_powerOfCard (⟨⟨Nat.le_of_ble_eq_true rfl, Nat.le_of_ble_eq_true rfl⟩, ⟨rfl, rfl⟩, ⟨Nat.le_of_ble_eq_true rfl, Nat.le_of_ble_eq_true rfl⟩⟩) (k_recv hK hP.1 0 rfl rfl) (⟨hP, hcd⟩) rfl hl.1 rfl (Nat.le_of_ble_eq_true rfl) dX4_power_18) ?_
    refine lv_goto (tgt := 27) hx hb dX4_power_21 (by decide) ?_
    exact k_lret hC hr hlk dX4_power_27 (by first | (rw [if_neg zc5]; done) | (rw [if_pos zc5, e_zj]; done) | (rw [if_pos zc5, e_zj]; rfl))
set_option maxHeartbeats 4000000 in
set_option maxRecDepth 100000 in
theorem c_X4_countCards (l : Launch) (g : kG) (x : Nat → Nat) (a : Nat → Nat) (n : Nat) (f : Nat → Int32) (cn : Nat) (rf : Nat → Option Nat) (hc : f 61 = nI cn) (hcn : cn ≤ 10) (en : Int32) : PI l yX4_countCards cX4_countCards 4 (some .int) (rr 0 0) [.ref (x 0), .int (en)] ((XB g x a n f cn rf)) g (nI (s_mn f en cn)) := by
  refine kOf (by decide) (Nat.le_of_ble_eq_true rfl) (fun p e s m below meth c ls hC hr hlk hin hK hP hl => ?_)
  have hx := hC.1
  have hb := hC.2.1
  have hml := hC.2.2.1
  have hown := hC.2.2.2.1
  have hts := hC.2.2.2.2
  have hl : lv_has ls 4 [(0, .ref (x 0)), (1, .int (en))] := hl
  refine lv_iconst (v := nI 0) hx hb dX4_countCards_0 (by decide) ?_
  refine lv_istore_n (lv' := [(2, .int (nI 0)), (0, .ref (x 0)), (1, .int (en))]) hx hb dX4_countCards_1 rfl hl (by decide) rfl (fun ls hl => ?_)
  refine lv_iconst (v := nI 0) hx hb dX4_countCards_2 (by decide) ?_
  refine lv_istore_n (lv' := [(3, .int (nI 0)), (2, .int (nI 0)), (0, .ref (x 0)), (1, .int (en))]) hx hb dX4_countCards_3 rfl hl (by decide) rfl (fun ls hl => ?_)
  have key_1 : ∀ (k_2 : Nat) (zi : Nat) (ct : Nat)  (hi : zi ≤ cn) (hs : ct = s_mn f en zi) (hk_k_2 : cn - zi < k_2) (ls : Array Slot) (hl : lv_has ls 4 [(3, .int (nI zi)), (2, .int (nI ct)), (0, .ref (x 0)), (1, .int (en))]), W p l e (rr 0 0) s m [.ref (x 0), .int (en)].toArray below meth c s.heap [] 0 0 (MQ below (vp_Si (fun r => r = nI (s_mn f en cn))) [.ref (x 0), .int (en)].toArray s 0 0 (fun _ => False)) (F0 m 4 ls ([])) := by
    intro k_2
    induction k_2 with
    | zero => intro zi ct hi hs hk_k_2 ls hl; exact absurd hk_k_2 (Nat.not_lt_zero _)
    | succ k_2 ih_3 =>
      intro zi ct hi hs hk_k_2 ls hl
      refine lv_iload_n hx hb dX4_countCards_4 rfl (lvG hl rfl) ?_
      refine lv_aload_n hx hb dX4_countCards_5 rfl (lvG hl rfl) ?_
      refine va_get (D := g.1) (ci := 4) (v := .ref (a 0)) (C := RX4) (T := TX4) (N := 7) hx hb hts i_X4 hown hK.1 hP.1 0 rfl rfl 0 (by decide) (hts _ w_175) (fun _ h9 => h9) rfl dX4_countCards_6 ?_
      refine va_get (D := g.1) (ci := 3) (v := .int (f 61)) (C := RX3) (T := TX3) (N := 13) hx hb hts i_X3 hown hK.1 hP.1 1 rfl rfl 12 (by decide) (hts _ w_146) (fun _ h9 => h9) rfl dX4_countCards_9 ?_
      rw [hc]
      refine n_icmp_ge (tgt := 40) hC dX4_countCards_12 (by omega) (by omega) (by decide) (fun zc12 => ?_) (fun zc12 => ?_)
      · refine lv_iload_n hx hb dX4_countCards_40 rfl (lvG hl rfl) ?_
        exact k_iret hC hr hlk dX4_countCards_41 (by rw [hs, show zi = cn by omega])
      · obtain ⟨qj, qoj, qij, hrf, hcd, hn1, hn2, hn3⟩ := hP.2.2 zi (by first | assumption | omega)
        refine lv_aload_n hx hb dX4_countCards_15 rfl (lvG hl rfl) ?_
        refine va_get (D := g.1) (ci := 4) (v := .ref (a 0)) (C := RX4) (T := TX4) (N := 7) hx hb hts i_X4 hown hK.1 hP.1 0 rfl rfl 0 (by decide) (hts _ w_175) (fun _ h9 => h9) rfl dX4_countCards_16 ?_
        refine va_get (D := g.1) (ci := 3) (v := .ref (a 6)) (C := RX3) (T := TX3) (N := 13) hx hb hts i_X3 hown hK.1 hP.1 1 rfl rfl 11 (by decide) (hts _ w_144) (fun _ h9 => h9) rfl dX4_countCards_19 ?_
        refine lv_iload_n hx hb dX4_countCards_22 rfl (lvG hl rfl) ?_
        refine q_ald (k := zi) (b := qj) hC hK hP.1 4 rfl (by omega) (by decide) (hrf) dX4_countCards_23 ?_
        refine va_get (D := g.1) (ci := 0) (v := .int (f (62 + 44 * zi))) (C := RX0) (T := TX0) (N := 4) hx hb hts i_X0 hown hK.1 hcd 0 rfl rfl 0 (by decide) (hts _ w_46) (fun _ h9 => h9) rfl dX4_countCards_24 ?_
        refine lv_iload_n hx hb dX4_countCards_27 rfl (lvG hl rfl) ?_
        refine lv_icmp_ne (tgt := 34) hx hb dX4_countCards_28 (by decide) (fun zc28 => ?_) (fun zc28 => ?_)
        · refine n_iinc (lv' := [(3, .int (nI (zi + 1))), (2, .int (nI ct)), (0, .ref (x 0)), (1, .int (en))]) hC dX4_countCards_34 hl rfl (by decide) rfl (fun ls hl => ?_)
          refine lv_goto (tgt := 4) hx hb dX4_countCards_37 (by decide) ?_
          exact ih_3 (zi + 1) ct  (by first | omega | assumption | rfl) (by unfold s_mn; rw [← hs]; first | (rw [if_pos zc28]; done) | (rw [if_neg zc28]; rfl)) (by omega) ls (lv_sub hl [0, 1, 2, 3] rfl)
        · refine n_iinc (lv' := [(2, .int (nI (ct + 1))), (3, .int (nI zi)), (0, .ref (x 0)), (1, .int (en))]) hC dX4_countCards_31 hl rfl (by decide) rfl (fun ls hl => ?_)
          refine n_iinc (lv' := [(3, .int (nI (zi + 1))), (2, .int (nI (ct + 1))), (0, .ref (x 0)), (1, .int (en))]) hC dX4_countCards_34 hl rfl (by decide) rfl (fun ls hl => ?_)
          refine lv_goto (tgt := 4) hx hb dX4_countCards_37 (by decide) ?_
          exact ih_3 (zi + 1) (ct + 1)  (by first | omega | assumption | rfl) (by unfold s_mn; rw [← hs]; first | (rw [if_pos zc28]; done) | (rw [if_neg zc28]; rfl)) (by omega) ls (lv_sub hl [0, 1, 2, 3] rfl)
  exact key_1 ((cn - 0) + 1) 0 0  (by first | rfl | omega | assumption) (by first | rfl | omega | assumption) (Nat.lt_succ_self _) ls (lv_sub hl [0, 1, 2, 3] rfl)
theorem L_X4_X4_isEnd : LnkS RX4 58 yX4_isEnd cX4_isEnd 1 (some .boolean) 1 := ⟨w_232, w_233, w_25, w_234, ⟨by decide +kernel, by decide +kernel⟩, by decide +kernel⟩
theorem L_X4_X4_countCards : LnkV RX4 237 yX4_countCards cX4_countCards 4 (some .int) 1 := ⟨w_425, w_427, w_14, w_25, w_428, ⟨by decide +kernel, by decide +kernel⟩, by decide +kernel⟩
set_option maxHeartbeats 4000000 in
set_option maxRecDepth 100000 in
theorem c_X4_cardsOf (l : Launch) (g : kG) (x : Nat → Nat) (a : Nat → Nat) (n : Nat) (f : Nat → Int32) (cn : Nat) (rf : Nat → Option Nat) (hc : f 61 = nI cn) (hcn : cn ≤ 10) (en : Int32) : PI l yX4_cardsOf cX4_cardsOf 2 (some .int) (rr 1 23) [.ref (x 0), .int (en)] ((XB g x a n f cn rf)) g (if nI 0 ≤ en ∧ en ≤ nI 1 then nI (s_mn f en cn) else cINV) := by
  refine kOf (by decide) (Nat.le_of_ble_eq_true rfl) (fun p e s m below meth c ls hC hr hlk hin hK hP hl => ?_)
  have hx := hC.1
  have hb := hC.2.1
  have hml := hC.2.2.1
  have hown := hC.2.2.2.1
  have hts := hC.2.2.2.2
  have hl : lv_has ls 2 [(0, .ref (x 0)), (1, .int (en))] := hl
  refine lv_iload_n hx hb dX4_cardsOf_0 rfl (lvG hl rfl) ?_
  refine k_callPI (k_goS (rest := []) hC hK (c_X4_isEnd l g en) L_X4_X4_isEnd (⟨⟨Nat.le_of_ble_eq_true rfl, Nat.le_of_ble_eq_true rfl⟩, ⟨rfl, rfl⟩, ⟨Nat.le_of_ble_eq_true rfl, Nat.le_of_ble_eq_true rfl⟩⟩) (trivial) rfl hl.1 rfl (Nat.le_of_ble_eq_true rfl) dX4_cardsOf_1) ?_
  refine b_ifeq (tgt := 15) hC dX4_cardsOf_4 (by decide) (fun zc4 => ?_) (fun zc4 => ?_)
  · refine lv_ldc (v := (-2000000001 : Int32)) hx hb hown (hts _ w_204) dX4_cardsOf_15 ?_
    exact k_iret hC hr hlk dX4_cardsOf_17 (by first | (rw [if_pos zc4]; done) | (rw [if_neg zc4]; done))
  · refine lv_aload_n hx hb dX4_cardsOf_7 rfl (lvG hl rfl) ?_
    refine lv_iload_n hx hb dX4_cardsOf_8 rfl (lvG hl rfl) ?_
    refine k_callPI (k_goV (rest := []) hC hK (c_X4_countCards l g x a n f cn rf hc hcn en) L_X4_X4_countCards (⟨⟨Nat.le_of_ble_eq_true rfl, Nat.le_of_ble_eq_true rfl⟩, ⟨rfl, rfl⟩, ⟨Nat.le_of_ble_eq_true rfl, Nat.le_of_ble_eq_true rfl⟩⟩) (k_recv hK hP.1 0 rfl rfl) (hP) rfl hl.1 rfl (Nat.le_of_ble_eq_true rfl) dX4_cardsOf_9) ?_
    refine lv_goto (tgt := 17) hx hb dX4_cardsOf_12 (by decide) ?_
    exact k_iret hC hr hlk dX4_cardsOf_17 (by first | (rw [if_pos zc4]; done) | (rw [if_neg zc4]; done))
set_option maxHeartbeats 4000000 in
set_option maxRecDepth 100000 in
theorem c_X4_meanOfPowers (l : Launch) (g : kG) (x : Nat → Nat) (a : Nat → Nat) (n : Nat) (f : Nat → Int32) (cn : Nat) (rf : Nat → Option Nat) (hc : f 61 = nI cn) (hcn : cn ≤ 10) (en : Int32) (hE : ∀ j, j < cn → f (62 + 44 * j) = nI (s_en f j) ∧ s_en f j ≤ 1) (hm : 0 < s_mn f en cn) : PL l yX4_meanOfPowers cX4_meanOfPowers 5 (some .long) (rr 4 94) [.ref (x 0), .int (en)] ((XB g x a n f cn rf)) g (s_mp f en cn) := by
  refine kOf (by decide) (Nat.le_of_ble_eq_true rfl) (fun p e s m below meth c ls hC hr hlk hin hK hP hl => ?_)
  have hx := hC.1
  have hb := hC.2.1
  have hml := hC.2.2.1
  have hown := hC.2.2.2.1
  have hts := hC.2.2.2.2
  have hl : lv_has ls 5 [(0, .ref (x 0)), (1, .int (en))] := hl
  have hmn := s_mn_le f en cn
  refine lv_lconst (v := lN 0) hx hb dX4_meanOfPowers_0 (by decide) ?_
  refine lv_lstore_n (lv' := [(2, .long (lN 0)), (0, .ref (x 0)), (1, .int (en))]) hx hb dX4_meanOfPowers_1 rfl hl (by decide) rfl (fun ls hl => ?_)
  refine lv_iconst (v := nI 0) hx hb dX4_meanOfPowers_2 (by decide) ?_
  refine lv_istore (lv' := [(4, .int (nI 0)), (2, .long (lN 0)), (0, .ref (x 0)), (1, .int (en))]) hx hb dX4_meanOfPowers_3 hl (by decide) rfl (fun ls hl => ?_)
  have key_1 : ∀ (k_2 : Nat) (zi : Nat) (sm : Int64)  (hi : zi ≤ cn) (hs : sm = s_sp f en zi) (hk_k_2 : cn - zi < k_2) (ls : Array Slot) (hl : lv_has ls 5 [(4, .int (nI zi)), (2, .long (sm)), (0, .ref (x 0)), (1, .int (en))]), W p l e (rr 4 94) s m [.ref (x 0), .int (en)].toArray below meth c s.heap [] 0 0 (MQ below (vp_Sl (fun r => r = s_mp f en cn)) [.ref (x 0), .int (en)].toArray s 0 0 (fun _ => False)) (F0 m 5 ls ([])) := by
    intro k_2
    induction k_2 with
    | zero => intro zi sm hi hs hk_k_2 ls hl; exact absurd hk_k_2 (Nat.not_lt_zero _)
    | succ k_2 ih_3 =>
      intro zi sm hi hs hk_k_2 ls hl
      refine lv_iload hx hb dX4_meanOfPowers_5 (lvG hl rfl) ?_
      refine lv_aload_n hx hb dX4_meanOfPowers_7 rfl (lvG hl rfl) ?_
      refine va_get (D := g.1) (ci := 4) (v := .ref (a 0)) (C := RX4) (T := TX4) (N := 7) hx hb hts i_X4 hown hK.1 hP.1 0 rfl rfl 0 (by decide) (hts _ w_175) (fun _ h9 => h9) rfl dX4_meanOfPowers_8 ?_
      refine va_get (D := g.1) (ci := 3) (v := .int (f 61)) (C := RX3) (T := TX3) (N := 13) hx hb hts i_X3 hown hK.1 hP.1 1 rfl rfl 12 (by decide) (hts _ w_146) (fun _ h9 => h9) rfl dX4_meanOfPowers_11 ?_
      rw [hc]
      refine n_icmp_ge (tgt := 57) hC dX4_meanOfPowers_14 (by omega) (by omega) (by decide) (fun zc14 => ?_) (fun zc14 => ?_)
      · refine lv_lload_n hx hb dX4_meanOfPowers_57 rfl (lvG hl rfl) ?_
        refine lv_aload_n hx hb dX4_meanOfPowers_58 rfl (lvG hl rfl) ?_
        refine lv_iload_n hx hb dX4_meanOfPowers_59 rfl (lvG hl rfl) ?_
        refine k_callPI (k_goV (rest := [.long (sm)]) hC hK (c_X4_countCards l g x a n f cn rf hc hcn en) L_X4_X4_countCards (⟨⟨Nat.le_of_ble_eq_true rfl, Nat.le_of_ble_eq_true rfl⟩, ⟨rfl, rfl⟩, ⟨Nat.le_of_ble_eq_true rfl, Nat.le_of_ble_eq_true rfl⟩⟩) (k_recv hK hP.1 0 rfl rfl) (hP) rfl hl.1 rfl (Nat.le_of_ble_eq_true rfl) dX4_meanOfPowers_60) ?_
        refine lv_i2l (v := (nI (s_mn f en cn)).toInt64) hx hb dX4_meanOfPowers_63 rfl ?_
        refine k_callPL (k_goS (rest := []) hC hK (c_X4_longQuotient l g sm ((nI (s_mn f en cn)).toInt64)) L_X4_X4_longQuotient (⟨⟨Nat.le_of_ble_eq_true rfl, Nat.le_of_ble_eq_true rfl⟩, ⟨rfl, rfl⟩, ⟨Nat.le_of_ble_eq_true rfl, Nat.le_of_ble_eq_true rfl⟩⟩) (trivial) rfl hl.1 rfl (Nat.le_of_ble_eq_true rfl) dX4_meanOfPowers_64) ?_
        exact k_lret hC hr hlk dX4_meanOfPowers_67 (by rw [hs, show zi = cn by omega]; exact quo_L _ _ (by rw [t64, nI_toInt (by omega)]; omega))
      · obtain ⟨qj, qoj, qij, hrf, hcd, hn1, hn2, hn3⟩ := hP.2.2 zi (by first | assumption | omega)
        refine lv_aload_n hx hb dX4_meanOfPowers_17 rfl (lvG hl rfl) ?_
        refine va_get (D := g.1) (ci := 4) (v := .ref (a 0)) (C := RX4) (T := TX4) (N := 7) hx hb hts i_X4 hown hK.1 hP.1 0 rfl rfl 0 (by decide) (hts _ w_175) (fun _ h9 => h9) rfl dX4_meanOfPowers_18 ?_
        refine va_get (D := g.1) (ci := 3) (v := .ref (a 6)) (C := RX3) (T := TX3) (N := 13) hx hb hts i_X3 hown hK.1 hP.1 1 rfl rfl 11 (by decide) (hts _ w_144) (fun _ h9 => h9) rfl dX4_meanOfPowers_21 ?_
        refine lv_iload hx hb dX4_meanOfPowers_24 (lvG hl rfl) ?_
        refine q_ald (k := zi) (b := qj) hC hK hP.1 4 rfl (by omega) (by decide) (hrf) dX4_meanOfPowers_26 ?_
        refine va_get (D := g.1) (ci := 0) (v := .int (f (62 + 44 * zi))) (C := RX0) (T := TX0) (N := 4) hx hb hts i_X0 hown hK.1 hcd 0 rfl rfl 0 (by decide) (hts _ w_46) (fun _ h9 => h9) rfl dX4_meanOfPowers_27 ?_
        refine lv_iload_n hx hb dX4_meanOfPowers_30 rfl (lvG hl rfl) ?_
        refine lv_icmp_ne (tgt := 51) hx hb dX4_meanOfPowers_31 (by decide) (fun zc31 => ?_) (fun zc31 => ?_)
        · refine n_iinc (lv' := [(4, .int (nI (zi + 1))), (2, .long (sm)), (0, .ref (x 0)), (1, .int (en))]) hC dX4_meanOfPowers_51 hl rfl (by decide) rfl (fun ls hl => ?_)
          refine lv_goto (tgt := 5) hx hb dX4_meanOfPowers_54 (by decide) ?_
          exact ih_3 (zi + 1) sm  (by first | omega | assumption | rfl) (by unfold s_sp; rw [← hs]; first | (rw [if_pos zc31]; rfl) | (rw [if_neg zc31]; exact (Int64.add_zero _).symm)) (by omega) ls (lv_sub hl [0, 1, 2, 3] rfl)
        · refine lv_lload_n hx hb dX4_meanOfPowers_34 rfl (lvG hl rfl) ?_
          refine lv_aload_n hx hb dX4_meanOfPowers_35 rfl (lvG hl rfl) ?_
          refine lv_aload_n hx hb dX4_meanOfPowers_36 rfl (lvG hl rfl) ?_
          refine va_get (D := g.1) (ci := 4) (v := .ref (a 0)) (C := RX4) (T := TX4) (N := 7) hx hb hts i_X4 hown hK.1 hP.1 0 rfl rfl 0 (by decide) (hts _ w_175) (fun _ h9 => h9) rfl dX4_meanOfPowers_37 ?_
          refine va_get (D := g.1) (ci := 3) (v := .ref (a 6)) (C := RX3) (T := TX3) (N := 13) hx hb hts i_X3 hown hK.1 hP.1 1 rfl rfl 11 (by decide) (hts _ w_144) (fun _ h9 => h9) rfl dX4_meanOfPowers_40 ?_
          refine lv_iload hx hb dX4_meanOfPowers_43 (lvG hl rfl) ?_
          refine q_ald (k := zi) (b := qj) hC hK hP.1 4 rfl (by omega) (by decide) (hrf) dX4_meanOfPowers_45 ?_
          refine k_callPL (k_goV (rest := [.long (sm)]) hC hK (c_X4_powerOfCard l g x a n f cn rf qj qoj qij (f (62 + 44 * zi)) (f (62 + 44 * zi + 1)) ((s_pt f zi)) hc hcn (s_en f zi) ((hE zi (by first | assumption | omega)).1) ((hE zi (by first | assumption | omega)).2)) L_X4_X4_powerOfCard (⟨⟨Nat.le_of_ble_eq_true rfl, Nat.le_of_ble_eq_true rfl⟩, ⟨rfl, rfl⟩, ⟨Nat.le_of_ble_eq_true rfl, Nat.le_of_ble_eq_true rfl⟩⟩) (k_recv hK hP.1 0 rfl rfl) (⟨hP, hcd⟩) rfl hl.1 rfl (Nat.le_of_ble_eq_true rfl) dX4_meanOfPowers_46) ?_
          refine lv_ladd hx hb dX4_meanOfPowers_49 ?_
          refine lv_lstore_n (lv' := [(2, .long (sm + (s_pw f (s_ar ((s_pt f zi)) 20) (s_en f zi) (f (62 + 44 * zi + 1))))), (4, .int (nI zi)), (0, .ref (x 0)), (1, .int (en))]) hx hb dX4_meanOfPowers_50 rfl hl (by decide) rfl (fun ls hl => ?_)
          refine n_iinc (lv' := [(4, .int (nI (zi + 1))), (2, .long (sm + (s_pw f (s_ar ((s_pt f zi)) 20) (s_en f zi) (f (62 + 44 * zi + 1))))), (0, .ref (x 0)), (1, .int (en))]) hC dX4_meanOfPowers_51 hl rfl (by decide) rfl (fun ls hl => ?_)
          refine lv_goto (tgt := 5) hx hb dX4_meanOfPowers_54 (by decide) ?_
          exact ih_3 (zi + 1) (sm + (s_pw f (s_ar ((s_pt f zi)) 20) (s_en f zi) (f (62 + 44 * zi + 1))))  (by first | omega | assumption | rfl) (by unfold s_sp; rw [← hs]; first | (rw [if_pos zc31]; rfl) | (rw [if_neg zc31]; exact (Int64.add_zero _).symm)) (by omega) ls (lv_sub hl [0, 1, 2, 3] rfl)
  exact key_1 ((cn - 0) + 1) 0 (lN 0)  (by first | rfl | omega | assumption) (by first | rfl | omega | assumption) (Nat.lt_succ_self _) ls (lv_sub hl [0, 1, 2, 3] rfl)
theorem L_X4_X4_meanOfPowers : LnkV RX4 245 yX4_meanOfPowers cX4_meanOfPowers 5 (some .long) 1 := ⟨w_446, w_448, w_16, w_25, w_449, ⟨by decide +kernel, by decide +kernel⟩, by decide +kernel⟩
set_option maxHeartbeats 4000000 in
set_option maxRecDepth 100000 in
theorem c_X4_meanPower (l : Launch) (g : kG) (x : Nat → Nat) (a : Nat → Nat) (n : Nat) (f : Nat → Int32) (cn : Nat) (rf : Nat → Option Nat) (hc : f 61 = nI cn) (hcn : cn ≤ 10) (en : Int32) (hE : ∀ j, j < cn → f (62 + 44 * j) = nI (s_en f j) ∧ s_en f j ≤ 1) : PL l yX4_meanPower cX4_meanPower 2 (some .long) (rr 5 118) [.ref (x 0), .int (en)] ((XB g x a n f cn rf)) g (if nI 0 ≤ en ∧ en ≤ nI 1 then (if s_mn f en cn = 0 then (-2000000004 : Int64) else s_mp f en cn) else (-2000000001 : Int64)) := by
  refine kOf (by decide) (Nat.le_of_ble_eq_true rfl) (fun p e s m below meth c ls hC hr hlk hin hK hP hl => ?_)
  have hx := hC.1
  have hb := hC.2.1
  have hml := hC.2.2.1
  have hown := hC.2.2.2.1
  have hts := hC.2.2.2.2
  have hl : lv_has ls 2 [(0, .ref (x 0)), (1, .int (en))] := hl
  have hmn := s_mn_le f en cn
  refine lv_iload_n hx hb dX4_meanPower_0 rfl (lvG hl rfl) ?_
  refine k_callPI (k_goS (rest := []) hC hK (c_X4_isEnd l g en) L_X4_X4_isEnd (⟨⟨Nat.le_of_ble_eq_true rfl, Nat.le_of_ble_eq_true rfl⟩, ⟨rfl, rfl⟩, ⟨Nat.le_of_ble_eq_true rfl, Nat.le_of_ble_eq_true rfl⟩⟩) (trivial) rfl hl.1 rfl (Nat.le_of_ble_eq_true rfl) dX4_meanPower_1) ?_
  refine b_ifne (tgt := 11) hC dX4_meanPower_4 (by decide) (fun zc4 => ?_) (fun zc4 => ?_)
  · refine lv_aload_n hx hb dX4_meanPower_11 rfl (lvG hl rfl) ?_
    refine lv_iload_n hx hb dX4_meanPower_12 rfl (lvG hl rfl) ?_
    refine k_callPI (k_goV (rest := []) hC hK (c_X4_countCards l g x a n f cn rf hc hcn en) L_X4_X4_countCards (⟨⟨Nat.le_of_ble_eq_true rfl, Nat.le_of_ble_eq_true rfl⟩, ⟨rfl, rfl⟩, ⟨Nat.le_of_ble_eq_true rfl, Nat.le_of_ble_eq_true rfl⟩⟩) (k_recv hK hP.1 0 rfl rfl) (hP) rfl hl.1 rfl (Nat.le_of_ble_eq_true rfl) dX4_meanPower_13) ?_
    refine n_if_ne (tgt := 23) hC dX4_meanPower_16 (by omega) (by decide) (fun zc16 => ?_) (fun zc16 => ?_)
    · refine lv_aload_n hx hb dX4_meanPower_23 rfl (lvG hl rfl) ?_
      refine lv_iload_n hx hb dX4_meanPower_24 rfl (lvG hl rfl) ?_
      refine k_callPL (k_goV (rest := []) hC hK (c_X4_meanOfPowers l g x a n f cn rf hc hcn en hE (by first | assumption | omega)) L_X4_X4_meanOfPowers (⟨⟨Nat.le_of_ble_eq_true rfl, Nat.le_of_ble_eq_true rfl⟩, ⟨rfl, rfl⟩, ⟨Nat.le_of_ble_eq_true rfl, Nat.le_of_ble_eq_true rfl⟩⟩) (k_recv hK hP.1 0 rfl rfl) (hP) rfl hl.1 rfl (Nat.le_of_ble_eq_true rfl) dX4_meanPower_25) ?_
      exact k_lret hC hr hlk dX4_meanPower_28 (by first | (rw [if_neg zc4]; done) | (rw [if_pos zc4, if_pos zc16]; done) | (rw [if_pos zc4, if_neg zc16]; done))
    · refine lv_ldc2 (v := (-2000000004 : Int64)) hx hb hown (hts _ w_445) dX4_meanPower_19 ?_
      exact k_lret hC hr hlk dX4_meanPower_22 (by first | (rw [if_neg zc4]; done) | (rw [if_pos zc4, if_pos zc16]; done) | (rw [if_pos zc4, if_neg zc16]; done))
  · refine lv_ldc2 (v := (-2000000001 : Int64)) hx hb hown (hts _ w_444) dX4_meanPower_7 ?_
    exact k_lret hC hr hlk dX4_meanPower_10 (by first | (rw [if_neg zc4]; done) | (rw [if_pos zc4, if_pos zc16]; done) | (rw [if_pos zc4, if_neg zc16]; done))
