def bd40 (x : Int64) : Prop := -1099511627776 ≤ x.toInt ∧ x.toInt ≤ 1099511627776
theorem abl_sub {x y : Int64} (hx : bd40 x) (hy : bd40 y) : s_abl (x - y) = (if x < y then y - x else x - y) ∧ 0 ≤ (s_abl (x - y)).toInt ∧ (s_abl (x - y)).toInt ≤ 2199023255552 := by
  obtain ⟨a1, a2⟩ := hx
  obtain ⟨b1, b2⟩ := hy
  have hz : (lN 0).toInt = 0 := rfl
  have e1 : (x - y).toInt = x.toInt - y.toInt := fb_subL (by omega) (by omega)
  have e2 : (y - x).toInt = y.toInt - x.toInt := fb_subL (by omega) (by omega)
  unfold s_abl
  by_cases c : x < y
  · have c2 := Int64.lt_iff_toInt_lt.mp c
    have c3 : x - y < lN 0 := Int64.lt_iff_toInt_lt.mpr (by rw [e1, hz]; omega)
    rw [if_pos c, if_pos c3, Int64.neg_sub, e2]
    exact ⟨rfl, by omega, by omega⟩
  · have c2 := mt Int64.lt_iff_toInt_lt.mpr c
    have c3 : ¬ x - y < lN 0 := fun q => by have := Int64.lt_iff_toInt_lt.mp q; rw [e1, hz] at this; omega
    rw [if_neg c, if_neg c3, e1]
    exact ⟨rfl, by omega, by omega⟩
theorem im_eq {x y : Int64} (hx : bd40 x) (hy : bd40 y) (h1 : ¬ x < lN 0) (h2 : ¬ y < lN 0) (h3 : ¬ x + y = lN 0) : q_l (s_abl (x - y) * (1000 : Int64)) (x + y) = (if x < y then y - x else x - y) * (1000 : Int64) / (x + y) := by
  obtain ⟨e1, e2, e3⟩ := abl_sub hx hy
  obtain ⟨a1, a2⟩ := hx
  obtain ⟨b1, b2⟩ := hy
  have hz : (lN 0).toInt = 0 := rfl
  have k2 : (1000 : Int64).toInt = 1000 := rfl
  have c1 : 0 ≤ x.toInt := by have := mt Int64.lt_iff_toInt_lt.mpr h1; rw [hz] at this; omega
  have c2 : 0 ≤ y.toInt := by have := mt Int64.lt_iff_toInt_lt.mpr h2; rw [hz] at this; omega
  have c3 : (x + y).toInt = x.toInt + y.toInt := fb_addL (by omega) (by omega)
  have c4 : ¬ (x + y).toInt = 0 := fun q => h3 (Int64.toInt_inj.mp (by rw [q]; rfl))
  have c5 : 0 < (x + y).toInt := by omega
  have c6 : (s_abl (x - y) * (1000 : Int64)).toInt = (s_abl (x - y)).toInt * 1000 := by rw [fb_mulL (by rw [k2]; omega) (by rw [k2]; omega), k2]
  rw [quo_L _ _ c5, ← e1]
  unfold s_quo
  have r := (rem_L (s_abl (x - y) * (1000 : Int64)) (x + y) c5).2.2
  have r2 := (rem_sign (s_abl (x - y) * (1000 : Int64)).toInt (x + y).toInt c5).1 (by rw [c6]; omega)
  rw [if_neg (fun q => by have := Int64.lt_iff_toInt_lt.mp q; rw [r, hz] at this; omega)]
  exact Int64.sub_zero _
set_option maxHeartbeats 4000000 in
set_option maxRecDepth 100000 in
theorem c_X4_imbalance (l : Launch) (g : kG) (x : Nat → Nat) (a : Nat → Nat) (n : Nat) (f : Nat → Int32) (cn : Nat) (rf : Nat → Option Nat) (hc : f 61 = nI cn) (hcn : cn ≤ 10) (hE : ∀ j, j < cn → f (62 + 44 * j) = nI (s_en f j) ∧ s_en f j ≤ 1) (hM0 : bd40 (s_mp f (nI 0) cn)) (hM1 : bd40 (s_mp f (nI 1) cn)) : PI l yX4_imbalance cX4_imbalance 5 (some .int) (rr 5 118) [.ref (x 0)] ((XB g x a n f cn rf)) g (s_im f cn) := by
  refine kOf (by decide) (Nat.le_of_ble_eq_true rfl) (fun p e s m below meth c ls hC hr hlk hin hK hP hl => ?_)
  have hx := hC.1
  have hb := hC.2.1
  have hml := hC.2.2.1
  have hown := hC.2.2.2.1
  have hts := hC.2.2.2.2
  have hl : lv_has ls 5 [(0, .ref (x 0))] := hl
  have hm0 := s_mn_le f (nI 0) cn
  have hm1 := s_mn_le f (nI 1) cn
  refine lv_aload_n hx hb dX4_imbalance_0 rfl (lvG hl rfl) ?_
  refine lv_iconst (v := nI 0) hx hb dX4_imbalance_1 (by decide) ?_
  refine k_callPI (k_goV (rest := []) hC hK (c_X4_countCards l g x a n f cn rf hc hcn (nI 0)) L_X4_X4_countCards (⟨⟨Nat.le_of_ble_eq_true rfl, Nat.le_of_ble_eq_true rfl⟩, ⟨rfl, rfl⟩, ⟨Nat.le_of_ble_eq_true rfl, Nat.le_of_ble_eq_true rfl⟩⟩) (k_recv hK hP.1 0 rfl rfl) (hP) rfl hl.1 rfl (Nat.le_of_ble_eq_true rfl) dX4_imbalance_2) ?_
  refine n_if_eq (tgt := 16) hC dX4_imbalance_5 (by omega) (by decide) (fun zc5 => ?_) (fun zc5 => ?_)
  · refine lv_ldc (v := (-2000000004 : Int32)) hx hb hown (hts _ w_433) dX4_imbalance_16 ?_
    exact k_iret hC hr hlk dX4_imbalance_18 (by unfold s_im; first | (rw [if_pos (Or.inl zc5)]; done) | (rw [if_pos (Or.inr zc13)]; done))
  · refine lv_aload_n hx hb dX4_imbalance_8 rfl (lvG hl rfl) ?_
    refine lv_iconst (v := nI 1) hx hb dX4_imbalance_9 (by decide) ?_
    refine k_callPI (k_goV (rest := []) hC hK (c_X4_countCards l g x a n f cn rf hc hcn (nI 1)) L_X4_X4_countCards (⟨⟨Nat.le_of_ble_eq_true rfl, Nat.le_of_ble_eq_true rfl⟩, ⟨rfl, rfl⟩, ⟨Nat.le_of_ble_eq_true rfl, Nat.le_of_ble_eq_true rfl⟩⟩) (k_recv hK hP.1 0 rfl rfl) (hP) rfl hl.1 rfl (Nat.le_of_ble_eq_true rfl) dX4_imbalance_10) ?_
    refine n_if_ne (tgt := 19) hC dX4_imbalance_13 (by omega) (by decide) (fun zc13 => ?_) (fun zc13 => ?_)
    · refine lv_aload_n hx hb dX4_imbalance_19 rfl (lvG hl rfl) ?_
      refine lv_iconst (v := nI 0) hx hb dX4_imbalance_20 (by decide) ?_
      refine k_callPL (k_goV (rest := []) hC hK (c_X4_meanOfPowers l g x a n f cn rf hc hcn (nI 0) hE (by first | assumption | omega)) L_X4_X4_meanOfPowers (⟨⟨Nat.le_of_ble_eq_true rfl, Nat.le_of_ble_eq_true rfl⟩, ⟨rfl, rfl⟩, ⟨Nat.le_of_ble_eq_true rfl, Nat.le_of_ble_eq_true rfl⟩⟩) (k_recv hK hP.1 0 rfl rfl) (hP) rfl hl.1 rfl (Nat.le_of_ble_eq_true rfl) dX4_imbalance_21) ?_
      refine lv_lstore_n (lv' := [(1, .long (s_mp f (nI 0) cn)), (0, .ref (x 0))]) hx hb dX4_imbalance_24 rfl hl (by decide) rfl (fun ls hl => ?_)
      refine lv_aload_n hx hb dX4_imbalance_25 rfl (lvG hl rfl) ?_
      refine lv_iconst (v := nI 1) hx hb dX4_imbalance_26 (by decide) ?_
      refine k_callPL (k_goV (rest := []) hC hK (c_X4_meanOfPowers l g x a n f cn rf hc hcn (nI 1) hE (by first | assumption | omega)) L_X4_X4_meanOfPowers (⟨⟨Nat.le_of_ble_eq_true rfl, Nat.le_of_ble_eq_true rfl⟩, ⟨rfl, rfl⟩, ⟨Nat.le_of_ble_eq_true rfl, Nat.le_of_ble_eq_true rfl⟩⟩) (k_recv hK hP.1 0 rfl rfl) (hP) rfl hl.1 rfl (Nat.le_of_ble_eq_true rfl) dX4_imbalance_27) ?_
      refine lv_lstore_n (lv' := [(3, .long (s_mp f (nI 1) cn)), (1, .long (s_mp f (nI 0) cn)), (0, .ref (x 0))]) hx hb dX4_imbalance_30 rfl hl (by decide) rfl (fun ls hl => ?_)
      refine lv_lload_n hx hb dX4_imbalance_31 rfl (lvG hl rfl) ?_
      refine lv_lconst (v := lN 0) hx hb dX4_imbalance_32 (by decide) ?_
      refine j_llt (tgt := 51) hC dX4_imbalance_33 dX4_imbalance_34 (by decide) (fun zc33 => ?_) (fun zc33 => ?_)
      · refine lv_ldc (v := (-2000000004 : Int32)) hx hb hown (hts _ w_433) dX4_imbalance_51 ?_
        exact k_iret hC hr hlk dX4_imbalance_53 (by unfold s_im; rw [if_neg (fun q => q.elim zc5 zc13)]; first | (rw [if_pos (Or.inl zc33)]; done) | (rw [if_pos (Or.inr (Or.inl zc39))]; done) | (rw [if_pos (Or.inr (Or.inr zc47))]; done))
      · refine lv_lload_n hx hb dX4_imbalance_37 rfl (lvG hl rfl) ?_
        refine lv_lconst (v := lN 0) hx hb dX4_imbalance_38 (by decide) ?_
        refine j_llt (tgt := 51) hC dX4_imbalance_39 dX4_imbalance_40 (by decide) (fun zc39 => ?_) (fun zc39 => ?_)
        · refine lv_ldc (v := (-2000000004 : Int32)) hx hb hown (hts _ w_433) dX4_imbalance_51 ?_
          exact k_iret hC hr hlk dX4_imbalance_53 (by unfold s_im; rw [if_neg (fun q => q.elim zc5 zc13)]; first | (rw [if_pos (Or.inl zc33)]; done) | (rw [if_pos (Or.inr (Or.inl zc39))]; done) | (rw [if_pos (Or.inr (Or.inr zc47))]; done))
        · refine lv_lload_n hx hb dX4_imbalance_43 rfl (lvG hl rfl) ?_
          refine lv_lload_n hx hb dX4_imbalance_44 rfl (lvG hl rfl) ?_
          refine lv_ladd hx hb dX4_imbalance_45 ?_
          refine lv_lconst (v := lN 0) hx hb dX4_imbalance_46 (by decide) ?_
          refine j_lne (tgt := 54) hC dX4_imbalance_47 dX4_imbalance_48 (by decide) (fun zc47 => ?_) (fun zc47 => ?_)
          · refine lv_lload_n hx hb dX4_imbalance_54 rfl (lvG hl rfl) ?_
            refine lv_lload_n hx hb dX4_imbalance_55 rfl (lvG hl rfl) ?_
            refine lv_lsub hx hb dX4_imbalance_56 ?_
            refine va_mabs_long hx hb (hml.trans hl.1.symm) hown (hts _ w_509) (hts _ w_510) (hts _ w_31) (hts _ w_511) (Nat.le_of_ble_eq_true rfl) (Nat.le_of_ble_eq_true rfl) (Nat.le_of_ble_eq_true rfl) (Nat.le_of_ble_eq_true rfl) dX4_imbalance_57 ?_
            rw [abs_l]
            refine lv_ldc2 (v := (1000 : Int64)) hx hb hown (hts _ w_512) dX4_imbalance_60 ?_
            refine lv_lmul hx hb dX4_imbalance_63 ?_
            refine lv_lload_n hx hb dX4_imbalance_64 rfl (lvG hl rfl) ?_
            refine lv_lload_n hx hb dX4_imbalance_65 rfl (lvG hl rfl) ?_
            refine lv_ladd hx hb dX4_imbalance_66 ?_
            refine k_callPL (k_goS (rest := []) hC hK (c_X4_longQuotient l g ((s_abl ((s_mp f (nI 0) cn) - (s_mp f (nI 1) cn))) * ((1000 : Int64))) ((s_mp f (nI 0) cn) + (s_mp f (nI 1) cn))) L_X4_X4_longQuotient (⟨⟨Nat.le_of_ble_eq_true rfl, Nat.le_of_ble_eq_true rfl⟩, ⟨rfl, rfl⟩, ⟨Nat.le_of_ble_eq_true rfl, Nat.le_of_ble_eq_true rfl⟩⟩) (trivial) rfl hl.1 rfl (Nat.le_of_ble_eq_true rfl) dX4_imbalance_67) ?_
            refine lv_l2i (v := (q_l ((s_abl ((s_mp f (nI 0) cn) - (s_mp f (nI 1) cn))) * ((1000 : Int64))) ((s_mp f (nI 0) cn) + (s_mp f (nI 1) cn))).toInt32) hx hb dX4_imbalance_70 rfl ?_
            exact k_iret hC hr hlk dX4_imbalance_71 (by unfold s_im; rw [if_neg (fun q => q.elim zc5 zc13), if_neg (fun q => q.elim zc33 (fun q => q.elim zc39 zc47)), im_eq hM0 hM1 zc33 zc39 zc47])
          · refine lv_ldc (v := (-2000000004 : Int32)) hx hb hown (hts _ w_433) dX4_imbalance_51 ?_
            exact k_iret hC hr hlk dX4_imbalance_53 (by unfold s_im; rw [if_neg (fun q => q.elim zc5 zc13)]; first | (rw [if_pos (Or.inl zc33)]; done) | (rw [if_pos (Or.inr (Or.inl zc39))]; done) | (rw [if_pos (Or.inr (Or.inr zc47))]; done))
    · refine lv_ldc (v := (-2000000004 : Int32)) hx hb hown (hts _ w_433) dX4_imbalance_16 ?_
      exact k_iret hC hr hlk dX4_imbalance_18 (by unfold s_im; first | (rw [if_pos (Or.inl zc5)]; done) | (rw [if_pos (Or.inr zc13)]; done))
set_option maxHeartbeats 4000000 in
set_option maxRecDepth 100000 in
theorem c_X4_isOutlier (l : Launch) (g : kG) (qc : Nat) (qo : Nat) (qi : Nat) (e0 : Int32) (sp : Int32) (p0 : Nat → Int32) (md : Int32) (pct : Int32) : PI l yX4_isOutlier cX4_isOutlier 3 (some .boolean) (rr 2 43) [.ref qc, .int (md), .int (pct)] ((va_P g.1 kCl (wC g qc qo qi e0 sp p0))) g (if pct * s_size md < s_size (s_ar p0 20 - md) * nI 100 then 1 else 0) := by
  refine kOf (by decide) (Nat.le_of_ble_eq_true rfl) (fun p e s m below meth c ls hC hr hlk hin hK hP hl => ?_)
  have hx := hC.1
  have hb := hC.2.1
  have hml := hC.2.2.1
  have hown := hC.2.2.2.1
  have hts := hC.2.2.2.2
  have hl : lv_has ls 3 [(0, .ref qc), (1, .int (md)), (2, .int (pct))] := hl
  refine lv_aload_n hx hb dX4_isOutlier_0 rfl (lvG hl rfl) ?_
  refine k_callPI (k_goV (rest := []) hC hK (c_X0_wholeArea l g qc qo qi e0 sp p0) L_X4_X0_wholeArea (⟨⟨Nat.le_of_ble_eq_true rfl, Nat.le_of_ble_eq_true rfl⟩, ⟨rfl, rfl⟩, ⟨Nat.le_of_ble_eq_true rfl, Nat.le_of_ble_eq_true rfl⟩⟩) (k_recv hK hP 0 rfl rfl) (hP) rfl hl.1 rfl (Nat.le_of_ble_eq_true rfl) dX4_isOutlier_1) ?_
  refine lv_iload_n hx hb dX4_isOutlier_4 rfl (lvG hl rfl) ?_
  refine lv_isub hx hb dX4_isOutlier_5 ?_
  refine va_mabs hx hb (hml.trans hl.1.symm) hown (hts _ w_494) (hts _ w_495) (hts _ w_31) (hts _ w_496) (Nat.le_of_ble_eq_true rfl) (Nat.le_of_ble_eq_true rfl) (Nat.le_of_ble_eq_true rfl) (Nat.le_of_ble_eq_true rfl) dX4_isOutlier_6 ?_
  rw [abs_size]
  refine lv_bipush (v := nI 100) hx hb dX4_isOutlier_9 (by decide) ?_
  refine lv_imul hx hb dX4_isOutlier_11 ?_
  refine lv_iload_n hx hb dX4_isOutlier_12 rfl (lvG hl rfl) ?_
  refine lv_iload_n hx hb dX4_isOutlier_13 rfl (lvG hl rfl) ?_
  refine va_mabs hx hb (hml.trans hl.1.symm) hown (hts _ w_494) (hts _ w_495) (hts _ w_31) (hts _ w_496) (Nat.le_of_ble_eq_true rfl) (Nat.le_of_ble_eq_true rfl) (Nat.le_of_ble_eq_true rfl) (Nat.le_of_ble_eq_true rfl) dX4_isOutlier_14 ?_
  rw [abs_size]
  refine lv_imul hx hb dX4_isOutlier_17 ?_
  refine lv_icmp_le (tgt := 25) hx hb dX4_isOutlier_18 (by decide) (fun zc18 => ?_) (fun zc18 => ?_)
  · refine lv_iconst (v := nI 0) hx hb dX4_isOutlier_25 (by decide) ?_
    exact k_zret hC hr hlk dX4_isOutlier_26 k_nar0 (by first | (rw [if_pos (Int32.not_le.mp zc18)]; rfl) | (rw [if_neg (Int32.not_lt.mpr zc18)]; rfl))
  · refine lv_iconst (v := nI 1) hx hb dX4_isOutlier_21 (by decide) ?_
    refine lv_goto (tgt := 26) hx hb dX4_isOutlier_22 (by decide) ?_
    exact k_zret hC hr hlk dX4_isOutlier_26 k_nar1 (by first | (rw [if_pos (Int32.not_le.mp zc18)]; rfl) | (rw [if_neg (Int32.not_lt.mpr zc18)]; rfl))
theorem L_X4_X4_isEvent : LnkS RX4 107 yX4_isEvent cX4_isEvent 1 (some .boolean) 1 := ⟨w_235, w_236, w_25, w_237, ⟨by decide +kernel, by decide +kernel⟩, by decide +kernel⟩
theorem L_X4_X3_valvesOf : LnkV RX4 91 yX3_valvesOf cX3_valvesOf 2 (some (.object "IndicatorDiagram$Events")) 1 := ⟨w_238, w_239, w_240, w_28, w_241, ⟨by decide +kernel, by decide +kernel⟩, by decide +kernel⟩
theorem L_X4_X2_stationOf : LnkV RX4 110 yX2_stationOf cX2_stationOf 2 (some .int) 1 := ⟨w_242, w_243, w_244, w_27, w_245, ⟨by decide +kernel, by decide +kernel⟩, by decide +kernel⟩
set_option maxHeartbeats 4000000 in
set_option maxRecDepth 100000 in
theorem c_X4_valve (l : Launch) (g : kG) (x : Nat → Nat) (a : Nat → Nat) (n : Nat) (f : Nat → Int32) (cn : Nat) (rf : Nat → Option Nat) (hc : f 61 = nI cn) (hcn : cn ≤ 10) (en : Int32) (ev : Int32) : PI l yX4_valve cX4_valve 3 (some .int) (rr 2 42) [.ref (x 0), .int (en), .int (ev)] ((XB g x a n f cn rf)) g (s_vaR f en ev) := by
  refine kOf (by decide) (Nat.le_of_ble_eq_true rfl) (fun p e s m below meth c ls hC hr hlk hin hK hP hl => ?_)
  have hx := hC.1
  have hb := hC.2.1
  have hml := hC.2.2.1
  have hown := hC.2.2.2.1
  have hts := hC.2.2.2.2
  have hl : lv_has ls 3 [(0, .ref (x 0)), (1, .int (en)), (2, .int (ev))] := hl
  refine lv_iload_n hx hb dX4_valve_0 rfl (lvG hl rfl) ?_
  refine k_callPI (k_goS (rest := []) hC hK (c_X4_isEnd l g en) L_X4_X4_isEnd (⟨⟨Nat.le_of_ble_eq_true rfl, Nat.le_of_ble_eq_true rfl⟩, ⟨rfl, rfl⟩, ⟨Nat.le_of_ble_eq_true rfl, Nat.le_of_ble_eq_true rfl⟩⟩) (trivial) rfl hl.1 rfl (Nat.le_of_ble_eq_true rfl) dX4_valve_1) ?_
  refine b_ifeq (tgt := 14) hC dX4_valve_4 (by decide) (fun zc4 => ?_) (fun zc4 => ?_)
  · refine lv_ldc (v := (-2000000001 : Int32)) hx hb hown (hts _ w_204) dX4_valve_14 ?_
    exact k_iret hC hr hlk dX4_valve_16 (by unfold s_vaR; first | (rw [if_neg (fun q => zc4 q.1)]; done) | (rw [if_neg (fun q => zc11 q.2)]; done))
  · refine lv_iload_n hx hb dX4_valve_7 rfl (lvG hl rfl) ?_
    refine k_callPI (k_goS (rest := []) hC hK (c_X4_isEvent l g ev) L_X4_X4_isEvent (⟨⟨Nat.le_of_ble_eq_true rfl, Nat.le_of_ble_eq_true rfl⟩, ⟨rfl, rfl⟩, ⟨Nat.le_of_ble_eq_true rfl, Nat.le_of_ble_eq_true rfl⟩⟩) (trivial) rfl hl.1 rfl (Nat.le_of_ble_eq_true rfl) dX4_valve_8) ?_
    refine b_ifne (tgt := 17) hC dX4_valve_11 (by decide) (fun zc11 => ?_) (fun zc11 => ?_)
    · obtain ⟨zj, h_zj, ev_zj⟩ := in_nat (by decide) (zc4)
      have e_zj : (en).toNatClampNeg = zj := by rw [ev_zj]; exact nI_clamp (by omega)
      have hl : lv_has ls 3 [(0, .ref (x 0)), (1, .int (nI zj)), (2, .int (ev))] := lv_eq hl (by rw [ev_zj])
      obtain ⟨zk, h_zk, ev_zk⟩ := in_nat (by decide) (zc11)
      have e_zk : (ev).toNatClampNeg = zk := by rw [ev_zk]; exact nI_clamp (by omega)
      have hl : lv_has ls 3 [(0, .ref (x 0)), (1, .int (nI zj)), (2, .int (nI zk))] := lv_eq hl (by rw [ev_zk])
      rcases (show zj = 0 ∨ zj = 1 by omega) with z0 | z0
      · have hl : lv_has ls 3 [(0, .ref (x 0)), (1, .int (nI 0)), (2, .int (nI zk))] := lv_eq hl (by rw [z0])
        refine lv_aload_n hx hb dX4_valve_17 rfl (lvG hl rfl) ?_
        refine va_get (D := g.1) (ci := 4) (v := .ref (a 0)) (C := RX4) (T := TX4) (N := 7) hx hb hts i_X4 hown hK.1 hP.1 0 rfl rfl 0 (by decide) (hts _ w_175) (fun _ h9 => h9) rfl dX4_valve_18 ?_
        refine lv_iload_n hx hb dX4_valve_21 rfl (lvG hl rfl) ?_
        refine k_callPR (k_goV (rest := []) hC hK (c_X3_valvesOf l g a f (nI 0)) L_X4_X3_valvesOf (⟨⟨Nat.le_of_ble_eq_true rfl, Nat.le_of_ble_eq_true rfl⟩, ⟨rfl, rfl⟩, ⟨Nat.le_of_ble_eq_true rfl, Nat.le_of_ble_eq_true rfl⟩⟩) (k_recv hK hP.1 1 rfl rfl) ((hP.1.sub [1] rfl)) rfl hl.1 rfl (Nat.le_of_ble_eq_true rfl) dX4_valve_22) ?_
        rw [if_pos (show nI 0 = nI 0 from rfl)]
        refine lv_iload_n hx hb dX4_valve_25 rfl (lvG hl rfl) ?_
        refine k_callPI (k_goV (rest := []) hC hK (c_X2_stationOf l g (a 1) (f 8) (f 9) (f 10) (f 11) zk (by first | assumption | omega)) L_X4_X2_stationOf (⟨⟨Nat.le_of_ble_eq_true rfl, Nat.le_of_ble_eq_true rfl⟩, ⟨rfl, rfl⟩, ⟨Nat.le_of_ble_eq_true rfl, Nat.le_of_ble_eq_true rfl⟩⟩) (k_recv hK hP.1 2 rfl rfl) ((hP.1.sub [2] rfl)) rfl hl.1 rfl (Nat.le_of_ble_eq_true rfl) dX4_valve_26) ?_
        exact k_iret hC hr hlk dX4_valve_29 (by unfold s_vaR; rw [if_pos ⟨zc4, zc11⟩, e_zj, e_zk, z0]; first | exact sel_eq f 8 (by omega) | exact sel_eq f 12 (by omega))
      · have hl : lv_has ls 3 [(0, .ref (x 0)), (1, .int (nI 1)), (2, .int (nI zk))] := lv_eq hl (by rw [z0])
        refine lv_aload_n hx hb dX4_valve_17 rfl (lvG hl rfl) ?_
        refine va_get (D := g.1) (ci := 4) (v := .ref (a 0)) (C := RX4) (T := TX4) (N := 7) hx hb hts i_X4 hown hK.1 hP.1 0 rfl rfl 0 (by decide) (hts _ w_175) (fun _ h9 => h9) rfl dX4_valve_18 ?_
        refine lv_iload_n hx hb dX4_valve_21 rfl (lvG hl rfl) ?_
        refine k_callPR (k_goV (rest := []) hC hK (c_X3_valvesOf l g a f (nI 1)) L_X4_X3_valvesOf (⟨⟨Nat.le_of_ble_eq_true rfl, Nat.le_of_ble_eq_true rfl⟩, ⟨rfl, rfl⟩, ⟨Nat.le_of_ble_eq_true rfl, Nat.le_of_ble_eq_true rfl⟩⟩) (k_recv hK hP.1 1 rfl rfl) ((hP.1.sub [1] rfl)) rfl hl.1 rfl (Nat.le_of_ble_eq_true rfl) dX4_valve_22) ?_
        rw [if_neg (show ¬ nI 1 = nI 0 by decide)]
        refine lv_iload_n hx hb dX4_valve_25 rfl (lvG hl rfl) ?_
        refine k_callPI (k_goV (rest := []) hC hK (c_X2_stationOf l g (a 2) (f 12) (f 13) (f 14) (f 15) zk (by first | assumption | omega)) L_X4_X2_stationOf (⟨⟨Nat.le_of_ble_eq_true rfl, Nat.le_of_ble_eq_true rfl⟩, ⟨rfl, rfl⟩, ⟨Nat.le_of_ble_eq_true rfl, Nat.le_of_ble_eq_true rfl⟩⟩) (k_recv hK hP.1 3 rfl rfl) ((hP.1.sub [3] rfl)) rfl hl.1 rfl (Nat.le_of_ble_eq_true rfl) dX4_valve_26) ?_
        exact k_iret hC hr hlk dX4_valve_29 (by unfold s_vaR; rw [if_pos ⟨zc4, zc11⟩, e_zj, e_zk, z0]; first | exact sel_eq f 8 (by omega) | exact sel_eq f 12 (by omega))
    · refine lv_ldc (v := (-2000000001 : Int32)) hx hb hown (hts _ w_204) dX4_valve_14 ?_
      exact k_iret hC hr hlk dX4_valve_16 (by unfold s_vaR; first | (rw [if_neg (fun q => zc4 q.1)]; done) | (rw [if_neg (fun q => zc11 q.2)]; done))
theorem L_X4_X4_isStroke : LnkS RX4 130 yX4_isStroke cX4_isStroke 1 (some .boolean) 1 := ⟨w_261, w_262, w_25, w_263, ⟨by decide +kernel, by decide +kernel⟩, by decide +kernel⟩
theorem L_X4_X0_pressuresOf : LnkV RX4 196 yX0_pressuresOf cX0_pressuresOf 2 (some (.array .int)) 1 := ⟨w_337, w_338, w_339, w_26, w_340, ⟨by decide +kernel, by decide +kernel⟩, by decide +kernel⟩
set_option maxHeartbeats 4000000 in
set_option maxRecDepth 100000 in
theorem c_X4_pressure (l : Launch) (g : kG) (x : Nat → Nat) (a : Nat → Nat) (n : Nat) (f : Nat → Int32) (cn : Nat) (rf : Nat → Option Nat) (hc : f 61 = nI cn) (hcn : cn ≤ 10) (v : Int32) (st : Int32) (sa : Int32) : PI l yX4_pressure cX4_pressure 4 (some .int) (rr 2 42) [.ref (x 0), .int (v), .int (st), .int (sa)] ((XB g x a n f cn rf)) g (if s_okC f v ∧ (nI 0 ≤ st ∧ st ≤ nI 1) ∧ (nI 0 ≤ sa ∧ sa ≤ nI 20) then s_pt f (v).toNatClampNeg (21 * (st).toNatClampNeg + (sa).toNatClampNeg) else cINV) := by
  refine kOf (by decide) (Nat.le_of_ble_eq_true rfl) (fun p e s m below meth c ls hC hr hlk hin hK hP hl => ?_)
  have hx := hC.1
  have hb := hC.2.1
  have hml := hC.2.2.1
  have hown := hC.2.2.2.1
  have hts := hC.2.2.2.2
  have hl : lv_has ls 4 [(0, .ref (x 0)), (1, .int (v)), (2, .int (st)), (3, .int (sa))] := hl
  refine lv_aload_n hx hb dX4_pressure_0 rfl (lvG hl rfl) ?_
  refine lv_iload_n hx hb dX4_pressure_1 rfl (lvG hl rfl) ?_
  refine k_callPI (k_goV (rest := []) hC hK (c_X4_isCard l g x a n f cn rf hc hcn v) L_X4_X4_isCard (⟨⟨Nat.le_of_ble_eq_true rfl, Nat.le_of_ble_eq_true rfl⟩, ⟨rfl, rfl⟩, ⟨Nat.le_of_ble_eq_true rfl, Nat.le_of_ble_eq_true rfl⟩⟩) (k_recv hK hP.1 0 rfl rfl) (hP) rfl hl.1 rfl (Nat.le_of_ble_eq_true rfl) dX4_pressure_2) ?_
  refine b_ifeq (tgt := 22) hC dX4_pressure_5 (by decide) (fun zc5 => ?_) (fun zc5 => ?_)
  · refine lv_ldc (v := (-2000000001 : Int32)) hx hb hown (hts _ w_204) dX4_pressure_22 ?_
    exact k_iret hC hr hlk dX4_pressure_24 (by first | (rw [if_neg (fun q => zc5 q.1)]; done) | (rw [if_neg (fun q => zc12 q.2.1)]; done) | (rw [if_neg (fun q => zc19 q.2.2)]; done))
  · refine lv_iload_n hx hb dX4_pressure_8 rfl (lvG hl rfl) ?_
    refine k_callPI (k_goS (rest := []) hC hK (c_X4_isStroke l g st) L_X4_X4_isStroke (⟨⟨Nat.le_of_ble_eq_true rfl, Nat.le_of_ble_eq_true rfl⟩, ⟨rfl, rfl⟩, ⟨Nat.le_of_ble_eq_true rfl, Nat.le_of_ble_eq_true rfl⟩⟩) (trivial) rfl hl.1 rfl (Nat.le_of_ble_eq_true rfl) dX4_pressure_9) ?_
    refine b_ifeq (tgt := 22) hC dX4_pressure_12 (by decide) (fun zc12 => ?_) (fun zc12 => ?_)
    · refine lv_ldc (v := (-2000000001 : Int32)) hx hb hown (hts _ w_204) dX4_pressure_22 ?_
      exact k_iret hC hr hlk dX4_pressure_24 (by first | (rw [if_neg (fun q => zc5 q.1)]; done) | (rw [if_neg (fun q => zc12 q.2.1)]; done) | (rw [if_neg (fun q => zc19 q.2.2)]; done))
    · refine lv_iload_n hx hb dX4_pressure_15 rfl (lvG hl rfl) ?_
      refine k_callPI (k_goS (rest := []) hC hK (c_X4_isStation l g sa) L_X4_X4_isStation (⟨⟨Nat.le_of_ble_eq_true rfl, Nat.le_of_ble_eq_true rfl⟩, ⟨rfl, rfl⟩, ⟨Nat.le_of_ble_eq_true rfl, Nat.le_of_ble_eq_true rfl⟩⟩) (trivial) rfl hl.1 rfl (Nat.le_of_ble_eq_true rfl) dX4_pressure_16) ?_
      refine b_ifne (tgt := 25) hC dX4_pressure_19 (by decide) (fun zc19 => ?_) (fun zc19 => ?_)
      · obtain ⟨zt, h_zt, ev_zt⟩ := in_nat (by decide) (zc12)
        have e_zt : (st).toNatClampNeg = zt := by rw [ev_zt]; exact nI_clamp (by omega)
        have hl : lv_has ls 4 [(0, .ref (x 0)), (1, .int (v)), (2, .int (nI zt)), (3, .int (sa))] := lv_eq hl (by rw [ev_zt])
        obtain ⟨za, h_za, ev_za⟩ := in_nat (by decide) (zc19)
        have e_za : (sa).toNatClampNeg = za := by rw [ev_za]; exact nI_clamp (by omega)
        have hl : lv_has ls 4 [(0, .ref (x 0)), (1, .int (v)), (2, .int (nI zt)), (3, .int (nI za))] := lv_eq hl (by rw [ev_za])
        obtain ⟨zj, h_zj, ev_zj⟩ := in_card (v := v) hcn hc (zc5)
        have e_zj : (v).toNatClampNeg = zj := by rw [ev_zj]; exact nI_clamp (by omega)
        have hl : lv_has ls 4 [(0, .ref (x 0)), (1, .int (nI zj)), (2, .int (nI zt)), (3, .int (nI za))] := lv_eq hl (by rw [ev_zj])
        obtain ⟨qj, qoj, qij, hrf, hcd, hn1, hn2, hn3⟩ := hP.2.2 zj (by first | assumption | omega)
        rcases (show zt = 0 ∨ zt = 1 by omega) with z0 | z0
        · have hl : lv_has ls 4 [(0, .ref (x 0)), (1, .int (nI zj)), (2, .int (nI 0)), (3, .int (nI za))] := lv_eq hl (by rw [z0])
          refine lv_aload_n hx hb dX4_pressure_25 rfl (lvG hl rfl) ?_
          refine va_get (D := g.1) (ci := 4) (v := .ref (a 0)) (C := RX4) (T := TX4) (N := 7) hx hb hts i_X4 hown hK.1 hP.1 0 rfl rfl 0 (by decide) (hts _ w_175) (fun _ h9 => h9) rfl dX4_pressure_26 ?_
          refine va_get (D := g.1) (ci := 3) (v := .ref (a 6)) (C := RX3) (T := TX3) (N := 13) hx hb hts i_X3 hown hK.1 hP.1 1 rfl rfl 11 (by decide) (hts _ w_144) (fun _ h9 => h9) rfl dX4_pressure_29 ?_
          refine lv_iload_n hx hb dX4_pressure_32 rfl (lvG hl rfl) ?_
          refine q_ald (k := zj) (b := qj) hC hK hP.1 4 rfl (by omega) (by decide) (hrf) dX4_pressure_33 ?_
          refine lv_iload_n hx hb dX4_pressure_34 rfl (lvG hl rfl) ?_
          refine k_callPR (k_goV (rest := []) hC hK (c_X0_pressuresOf l g qj qoj qij (f (62 + 44 * zj)) (f (62 + 44 * zj + 1)) ((s_pt f zj)) (nI 0)) L_X4_X0_pressuresOf (⟨⟨Nat.le_of_ble_eq_true rfl, Nat.le_of_ble_eq_true rfl⟩, ⟨rfl, rfl⟩, ⟨Nat.le_of_ble_eq_true rfl, Nat.le_of_ble_eq_true rfl⟩⟩) (k_recv hK hcd 0 rfl rfl) (hcd) rfl hl.1 rfl (Nat.le_of_ble_eq_true rfl) dX4_pressure_35) ?_
          rw [if_pos (show nI 0 = nI 0 from rfl)]
          refine lv_iload_n hx hb dX4_pressure_38 rfl (lvG hl rfl) ?_
          refine k_ald (k := za) hC hK hcd 1 rfl (by omega) (by decide) dX4_pressure_39 ?_
          exact k_iret hC hr hlk dX4_pressure_40 (by rw [if_pos ⟨zc5, zc12, zc19⟩, e_zj, e_zt, e_za, z0]; all_goals first | (rw [show 21 * 0 + za = za by omega]; done) | (rw [show 21 * 1 + za = 21 + za by omega]; done))
        · have hl : lv_has ls 4 [(0, .ref (x 0)), (1, .int (nI zj)), (2, .int (nI 1)), (3, .int (nI za))] := lv_eq hl (by rw [z0])
          refine lv_aload_n hx hb dX4_pressure_25 rfl (lvG hl rfl) ?_
          refine va_get (D := g.1) (ci := 4) (v := .ref (a 0)) (C := RX4) (T := TX4) (N := 7) hx hb hts i_X4 hown hK.1 hP.1 0 rfl rfl 0 (by decide) (hts _ w_175) (fun _ h9 => h9) rfl dX4_pressure_26 ?_
          refine va_get (D := g.1) (ci := 3) (v := .ref (a 6)) (C := RX3) (T := TX3) (N := 13) hx hb hts i_X3 hown hK.1 hP.1 1 rfl rfl 11 (by decide) (hts _ w_144) (fun _ h9 => h9) rfl dX4_pressure_29 ?_
          refine lv_iload_n hx hb dX4_pressure_32 rfl (lvG hl rfl) ?_
          refine q_ald (k := zj) (b := qj) hC hK hP.1 4 rfl (by omega) (by decide) (hrf) dX4_pressure_33 ?_
          refine lv_iload_n hx hb dX4_pressure_34 rfl (lvG hl rfl) ?_
          refine k_callPR (k_goV (rest := []) hC hK (c_X0_pressuresOf l g qj qoj qij (f (62 + 44 * zj)) (f (62 + 44 * zj + 1)) ((s_pt f zj)) (nI 1)) L_X4_X0_pressuresOf (⟨⟨Nat.le_of_ble_eq_true rfl, Nat.le_of_ble_eq_true rfl⟩, ⟨rfl, rfl⟩, ⟨Nat.le_of_ble_eq_true rfl, Nat.le_of_ble_eq_true rfl⟩⟩) (k_recv hK hcd 0 rfl rfl) (hcd) rfl hl.1 rfl (Nat.le_of_ble_eq_true rfl) dX4_pressure_35) ?_
          rw [if_neg (show ¬ nI 1 = nI 0 by decide)]
          refine lv_iload_n hx hb dX4_pressure_38 rfl (lvG hl rfl) ?_
          refine k_ald (k := za) hC hK hcd 2 rfl (by omega) (by decide) dX4_pressure_39 ?_
          exact k_iret hC hr hlk dX4_pressure_40 (by rw [if_pos ⟨zc5, zc12, zc19⟩, e_zj, e_zt, e_za, z0]; all_goals first | (rw [show 21 * 0 + za = za by omega]; done) | (rw [show 21 * 1 + za = 21 + za by omega]; done))
      · refine lv_ldc (v := (-2000000001 : Int32)) hx hb hown (hts _ w_204) dX4_pressure_22 ?_
        exact k_iret hC hr hlk dX4_pressure_24 (by first | (rw [if_neg (fun q => zc5 q.1)]; done) | (rw [if_neg (fun q => zc12 q.2.1)]; done) | (rw [if_neg (fun q => zc19 q.2.2)]; done))
