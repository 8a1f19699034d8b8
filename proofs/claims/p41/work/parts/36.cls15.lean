theorem L_X4_X4_areaWithCutOff : LnkV RX4 268 yX4_areaWithCutOff cX4_areaWithCutOff 3 (some .int) 2 := ⟨w_397, w_399, w_13, w_25, w_400, ⟨by decide +kernel, by decide +kernel⟩, by decide +kernel⟩
set_option maxHeartbeats 4000000 in
set_option maxRecDepth 100000 in
theorem c_X4_idealArea (l : Launch) (g : kG) (x : Nat → Nat) (a : Nat → Nat) (n : Nat) (f : Nat → Int32) (cn : Nat) (rf : Nat → Option Nat) (hc : f 61 = nI cn) (hcn : cn ≤ 10) (en : Int32) : MI l yX4_idealArea cX4_idealArea 2 (some .int) (rr 5 117) [.ref (x 0), .int (en)] ((fun H => XB g x a n f cn rf H ∧ XS g x H)) g 0 0 (SC x) (fun r H1 => r = (if nI 0 ≤ en ∧ en ≤ nI 1 then s_ar (k_ic f (8 + 4 * en.toNatClampNeg) (f (8 + 4 * en.toNatClampNeg + 1))) 20 else cINV) ∧ XS g x H1) := by
  refine kOf (by decide) (Nat.le_of_ble_eq_true rfl) (fun p e s m below meth c ls hC hr hlk hin hK hP hl => ?_)
  have hx := hC.1
  have hb := hC.2.1
  have hml := hC.2.2.1
  have hown := hC.2.2.2.1
  have hts := hC.2.2.2.2
  have hl : lv_has ls 2 [(0, .ref (x 0)), (1, .int (en))] := hl
  obtain ⟨hB, ⟨tr, te, fo, so, hT, hD⟩⟩ := hP
  have hS : va_S (SC x) s.heap s.heap [] := va_S.rf
  refine lv_iload_n hx hb dX4_idealArea_0 rfl (lvG hl rfl) ?_
  refine k_callPI (k_goS (rest := []) hC hK (c_X4_isEnd l g en) L_X4_X4_isEnd (⟨⟨Nat.le_of_ble_eq_true rfl, Nat.le_of_ble_eq_true rfl⟩, ⟨rfl, rfl⟩, ⟨Nat.le_of_ble_eq_true rfl, Nat.le_of_ble_eq_true rfl⟩⟩) (trivial) rfl hl.1 rfl (Nat.le_of_ble_eq_true rfl) dX4_idealArea_1) ?_
  refine b_ifne (tgt := 10) hC dX4_idealArea_4 (by decide) (fun zc4 => ?_) (fun zc4 => ?_)
  · obtain ⟨zj, h_zj, ev_zj⟩ := in_nat (by decide) (zc4)
    have e_zj : (en).toNatClampNeg = zj := by rw [ev_zj]; exact nI_clamp (by omega)
    have hl : lv_has ls 2 [(0, .ref (x 0)), (1, .int (nI zj))] := lv_eq hl (by rw [ev_zj])
    rcases (show zj = 0 ∨ zj = 1 by omega) with z0 | z0
    · have hl : lv_has ls 2 [(0, .ref (x 0)), (1, .int (nI 0))] := lv_eq hl (by rw [z0])
      refine lv_aload_n hx hb dX4_idealArea_10 rfl (lvG hl rfl) ?_
      refine lv_iload_n hx hb dX4_idealArea_11 rfl (lvG hl rfl) ?_
      refine lv_aload_n hx hb dX4_idealArea_12 rfl (lvG hl rfl) ?_
      refine va_get (D := g.1) (ci := 4) (v := .ref (a 0)) (C := RX4) (T := TX4) (N := 7) hx hb hts i_X4 hown hK.1 hB.1 0 rfl rfl 0 (by decide) (hts _ w_175) (fun _ h9 => h9) rfl dX4_idealArea_13 ?_
      refine lv_iload_n hx hb dX4_idealArea_16 rfl (lvG hl rfl) ?_
      refine k_callPR (k_goV (rest := [.int (nI 0), .ref (x 0)]) hC hK (c_X3_valvesOf l g a f (nI 0)) L_X4_X3_valvesOf (⟨⟨Nat.le_of_ble_eq_true rfl, Nat.le_of_ble_eq_true rfl⟩, ⟨rfl, rfl⟩, ⟨Nat.le_of_ble_eq_true rfl, Nat.le_of_ble_eq_true rfl⟩⟩) (k_recv hK hB.1 1 rfl rfl) ((hB.1.sub [1] rfl)) rfl hl.1 rfl (Nat.le_of_ble_eq_true rfl) dX4_idealArea_17) ?_
      rw [if_pos (show nI 0 = nI 0 from rfl)]
      refine va_get (D := g.1) (ci := 2) (v := .int (f 9)) (C := RX2) (T := TX2) (N := 4) hx hb hts i_X2 hown hK.1 hB.1 2 rfl rfl 1 (by decide) (hts _ w_71) (fun _ h9 => h9) rfl dX4_idealArea_20 ?_
      refine k_callMI0 (k_goV (rest := []) hC hK (c_X4_areaWith0 l g x a n f cn rf (f 9)) L_X4_X4_areaWithCutOff (⟨⟨Nat.le_of_ble_eq_true rfl, Nat.le_of_ble_eq_true rfl⟩, ⟨rfl, rfl⟩, ⟨Nat.le_of_ble_eq_true rfl, Nat.le_of_ble_eq_true rfl⟩⟩) (k_recv hK hB.1 0 rfl rfl) (⟨hB, ⟨tr, te, fo, so, hT, hD⟩⟩) rfl hl.1 rfl (Nat.le_of_ble_eq_true rfl) dX4_idealArea_23) hS (fun _ h => h) (fun r_ H_1 locs_2 hQ_3 hz_ hk_5 hS_4 => ?_)
      obtain ⟨e_6, tr_9, te_10, fo_11, so_12, hT_7, hD_8⟩ := hQ_3
      subst e_6
      have hB_13 : XB g x a n f cn rf H_1 := hB.at hS_4
      exact k_iretM hC hr hlk hS_4 dX4_idealArea_26 (⟨by first | (rw [if_neg zc4]; done) | (rw [if_pos zc4, e_zj, z0]; done), XTS ⟨hT_7, hD_8⟩⟩)
    · have hl : lv_has ls 2 [(0, .ref (x 0)), (1, .int (nI 1))] := lv_eq hl (by rw [z0])
      refine lv_aload_n hx hb dX4_idealArea_10 rfl (lvG hl rfl) ?_
      refine lv_iload_n hx hb dX4_idealArea_11 rfl (lvG hl rfl) ?_
      refine lv_aload_n hx hb dX4_idealArea_12 rfl (lvG hl rfl) ?_
      refine va_get (D := g.1) (ci := 4) (v := .ref (a 0)) (C := RX4) (T := TX4) (N := 7) hx hb hts i_X4 hown hK.1 hB.1 0 rfl rfl 0 (by decide) (hts _ w_175) (fun _ h9 => h9) rfl dX4_idealArea_13 ?_
      refine lv_iload_n hx hb dX4_idealArea_16 rfl (lvG hl rfl) ?_
      refine k_callPR (k_goV (rest := [.int (nI 1), .ref (x 0)]) hC hK (c_X3_valvesOf l g a f (nI 1)) L_X4_X3_valvesOf (⟨⟨Nat.le_of_ble_eq_true rfl, Nat.le_of_ble_eq_true rfl⟩, ⟨rfl, rfl⟩, ⟨Nat.le_of_ble_eq_true rfl, Nat.le_of_ble_eq_true rfl⟩⟩) (k_recv hK hB.1 1 rfl rfl) ((hB.1.sub [1] rfl)) rfl hl.1 rfl (Nat.le_of_ble_eq_true rfl) dX4_idealArea_17) ?_
      rw [if_neg (show ¬ nI 1 = nI 0 by decide)]
      refine va_get (D := g.1) (ci := 2) (v := .int (f 13)) (C := RX2) (T := TX2) (N := 4) hx hb hts i_X2 hown hK.1 hB.1 3 rfl rfl 1 (by decide) (hts _ w_71) (fun _ h9 => h9) rfl dX4_idealArea_20 ?_
      refine k_callMI0 (k_goV (rest := []) hC hK (c_X4_areaWith1 l g x a n f cn rf (f 13)) L_X4_X4_areaWithCutOff (⟨⟨Nat.le_of_ble_eq_true rfl, Nat.le_of_ble_eq_true rfl⟩, ⟨rfl, rfl⟩, ⟨Nat.le_of_ble_eq_true rfl, Nat.le_of_ble_eq_true rfl⟩⟩) (k_recv hK hB.1 0 rfl rfl) (⟨hB, ⟨tr, te, fo, so, hT, hD⟩⟩) rfl hl.1 rfl (Nat.le_of_ble_eq_true rfl) dX4_idealArea_23) hS (fun _ h => h) (fun r_ H_14 locs_15 hQ_16 hz_ hk_18 hS_17 => ?_)
      obtain ⟨e_19, tr_22, te_23, fo_24, so_25, hT_20, hD_21⟩ := hQ_16
      subst e_19
      have hB_26 : XB g x a n f cn rf H_14 := hB.at hS_17
      exact k_iretM hC hr hlk hS_17 dX4_idealArea_26 (⟨by first | (rw [if_neg zc4]; done) | (rw [if_pos zc4, e_zj, z0]; done), XTS ⟨hT_20, hD_21⟩⟩)
  · refine lv_ldc (v := (-2000000001 : Int32)) hx hb hown (hts _ w_204) dX4_idealArea_7 ?_
    exact k_iretM hC hr hlk hS dX4_idealArea_9 (⟨by first | (rw [if_neg zc4]; done) | (rw [if_pos zc4, e_zj, z0]; done), XTS ⟨hT, hD⟩⟩)
