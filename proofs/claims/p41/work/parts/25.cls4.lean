set_option maxHeartbeats 4000000 in
set_option maxRecDepth 100000 in
theorem c_X4_cardCount (l : Launch) (g : kG) (x : Nat → Nat) (a : Nat → Nat) (n : Nat) (f : Nat → Int32) (cn : Nat) (rf : Nat → Option Nat) (hc : f 61 = nI cn) (hcn : cn ≤ 10) : PI l yX4_cardCount cX4_cardCount 1 (some .int) (rr 0 0) [.ref (x 0)] ((XB g x a n f cn rf)) g (f 61) := by
  refine kOf (by decide) (Nat.le_of_ble_eq_true rfl) (fun p e s m below meth c ls hC hr hlk hin hK hP hl => ?_)
  have hx := hC.1
  have hb := hC.2.1
  have hml := hC.2.2.1
  have hown := hC.2.2.2.1
  have hts := hC.2.2.2.2
  have hl : lv_has ls 1 [(0, .ref (x 0))] := hl
  refine lv_aload_n hx hb dX4_cardCount_0 rfl (lvG hl rfl) ?_
  refine va_get (D := g.1) (ci := 4) (v := .ref (a 0)) (C := RX4) (T := TX4) (N := 7) hx hb hts i_X4 hown hK.1 hP.1 0 rfl rfl 0 (by decide) (hts _ w_175) (fun _ h9 => h9) rfl dX4_cardCount_1 ?_
  refine va_get (D := g.1) (ci := 3) (v := .int (f 61)) (C := RX3) (T := TX3) (N := 13) hx hb hts i_X3 hown hK.1 hP.1 1 rfl rfl 12 (by decide) (hts _ w_146) (fun _ h9 => h9) rfl dX4_cardCount_4 ?_
  exact k_iret hC hr hlk dX4_cardCount_7 (by first | rfl | grind [] | grind [nI])
set_option maxHeartbeats 4000000 in
set_option maxRecDepth 100000 in
theorem c_X4_historySize (l : Launch) (g : kG) (x : Nat → Nat) (a : Nat → Nat) (n : Nat) (f : Nat → Int32) (cn : Nat) (rf : Nat → Option Nat) (hc : f 61 = nI cn) (hcn : cn ≤ 10) : PI l yX4_historySize cX4_historySize 1 (some .int) (rr 0 0) [.ref (x 0)] ((XB g x a n f cn rf)) g (nI n) := by
  refine kOf (by decide) (Nat.le_of_ble_eq_true rfl) (fun p e s m below meth c ls hC hr hlk hin hK hP hl => ?_)
  have hx := hC.1
  have hb := hC.2.1
  have hml := hC.2.2.1
  have hown := hC.2.2.2.1
  have hts := hC.2.2.2.2
  have hl : lv_has ls 1 [(0, .ref (x 0))] := hl
  refine lv_aload_n hx hb dX4_historySize_0 rfl (lvG hl rfl) ?_
  refine va_get (D := g.1) (ci := 4) (v := .int (nI n)) (C := RX4) (T := TX4) (N := 7) hx hb hts i_X4 hown hK.1 hP.1 0 rfl rfl 2 (by decide) (hts _ w_177) (fun _ h9 => h9) rfl dX4_historySize_1 ?_
  exact k_iret hC hr hlk dX4_historySize_4 (by first | rfl | grind [] | grind [nI])
theorem L_X4_X4_isCard : LnkV RX4 185 yX4_isCard cX4_isCard 2 (some .boolean) 1 := ⟨w_333, w_335, w_6, w_25, w_336, ⟨by decide +kernel, by decide +kernel⟩, by decide +kernel⟩
set_option maxHeartbeats 4000000 in
set_option maxRecDepth 100000 in
theorem c_X4_end (l : Launch) (g : kG) (x : Nat → Nat) (a : Nat → Nat) (n : Nat) (f : Nat → Int32) (cn : Nat) (rf : Nat → Option Nat) (hc : f 61 = nI cn) (hcn : cn ≤ 10) (v : Int32) : PI l yX4_end cX4_end 2 (some .int) (rr 1 21) [.ref (x 0), .int (v)] ((XB g x a n f cn rf)) g (if s_okC f v then f (62 + 44 * (v).toNatClampNeg) else cINV) := by
  refine kOf (by decide) (Nat.le_of_ble_eq_true rfl) (fun p e s m below meth c ls hC hr hlk hin hK hP hl => ?_)
  have hx := hC.1
  have hb := hC.2.1
  have hml := hC.2.2.1
  have hown := hC.2.2.2.1
  have hts := hC.2.2.2.2
  have hl : lv_has ls 2 [(0, .ref (x 0)), (1, .int (v))] := hl
  refine lv_aload_n hx hb dX4_end_0 rfl (lvG hl rfl) ?_
  refine lv_iload_n hx hb dX4_end_1 rfl (lvG hl rfl) ?_
  refine k_callPI (k_goV (rest := []) hC hK (c_X4_isCard l g x a n f cn rf hc hcn v) L_X4_X4_isCard (⟨⟨Nat.le_of_ble_eq_true rfl, Nat.le_of_ble_eq_true rfl⟩, ⟨rfl, rfl⟩, ⟨Nat.le_of_ble_eq_true rfl, Nat.le_of_ble_eq_true rfl⟩⟩) (k_recv hK hP.1 0 rfl rfl) (hP) rfl hl.1 rfl (Nat.le_of_ble_eq_true rfl) dX4_end_2) ?_
  refine b_ifeq (tgt := 23) hC dX4_end_5 (by decide) (fun zc5 => ?_) (fun zc5 => ?_)
  · refine lv_ldc (v := (-2000000001 : Int32)) hx hb hown (hts _ w_204) dX4_end_23 ?_
    exact k_iret hC hr hlk dX4_end_25 (by first | (rw [if_neg zc5]; done) | (rw [if_pos zc5, e_zj]; done) | (rw [if_pos zc5, e_zj]; rfl))
  · obtain ⟨zj, h_zj, ev_zj⟩ := in_card (v := v) hcn hc (zc5)
    have e_zj : (v).toNatClampNeg = zj := by rw [ev_zj]; exact nI_clamp (by omega)
    have hl : lv_has ls 2 [(0, .ref (x 0)), (1, .int (nI zj))] := lv_eq hl (by rw [ev_zj])
    obtain ⟨qj, qoj, qij, hrf, hcd, hn1, hn2, hn3⟩ := hP.2.2 zj (by first | assumption | omega)
    refine lv_aload_n hx hb dX4_end_8 rfl (lvG hl rfl) ?_
    refine va_get (D := g.1) (ci := 4) (v := .ref (a 0)) (C := RX4) (T := TX4) (N := 7) hx hb hts i_X4 hown hK.1 hP.1 0 rfl rfl 0 (by decide) (hts _ w_175) (fun _ h9 => h9) rfl dX4_end_9 ?_
    refine va_get (D := g.1) (ci := 3) (v := .ref (a 6)) (C := RX3) (T := TX3) (N := 13) hx hb hts i_X3 hown hK.1 hP.1 1 rfl rfl 11 (by decide) (hts _ w_144) (fun _ h9 => h9) rfl dX4_end_12 ?_
    refine lv_iload_n hx hb dX4_end_15 rfl (lvG hl rfl) ?_
    refine q_ald (k := zj) (b := qj) hC hK hP.1 4 rfl (by omega) (by decide) (hrf) dX4_end_16 ?_
    refine va_get (D := g.1) (ci := 0) (v := .int (f (62 + 44 * zj))) (C := RX0) (T := TX0) (N := 4) hx hb hts i_X0 hown hK.1 hcd 0 rfl rfl 0 (by decide) (hts _ w_46) (fun _ h9 => h9) rfl dX4_end_17 ?_
    refine lv_goto (tgt := 25) hx hb dX4_end_20 (by decide) ?_
    exact k_iret hC hr hlk dX4_end_25 (by first | (rw [if_neg zc5]; done) | (rw [if_pos zc5, e_zj]; done) | (rw [if_pos zc5, e_zj]; rfl))
set_option maxHeartbeats 4000000 in
set_option maxRecDepth 100000 in
theorem c_X4_speed (l : Launch) (g : kG) (x : Nat → Nat) (a : Nat → Nat) (n : Nat) (f : Nat → Int32) (cn : Nat) (rf : Nat → Option Nat) (hc : f 61 = nI cn) (hcn : cn ≤ 10) (v : Int32) : PI l yX4_speed cX4_speed 2 (some .int) (rr 1 21) [.ref (x 0), .int (v)] ((XB g x a n f cn rf)) g (if s_okC f v then f (62 + 44 * (v).toNatClampNeg + 1) else cINV) := by
  refine kOf (by decide) (Nat.le_of_ble_eq_true rfl) (fun p e s m below meth c ls hC hr hlk hin hK hP hl => ?_)
  have hx := hC.1
  have hb := hC.2.1
  have hml := hC.2.2.1
  have hown := hC.2.2.2.1
  have hts := hC.2.2.2.2
  have hl : lv_has ls 2 [(0, .ref (x 0)), (1, .int (v))] := hl
  refine lv_aload_n hx hb dX4_speed_0 rfl (lvG hl rfl) ?_
  refine lv_iload_n hx hb dX4_speed_1 rfl (lvG hl rfl) ?_
  refine k_callPI (k_goV (rest := []) hC hK (c_X4_isCard l g x a n f cn rf hc hcn v) L_X4_X4_isCard (⟨⟨Nat.le_of_ble_eq_true rfl, Nat.le_of_ble_eq_true rfl⟩, ⟨rfl, rfl⟩, ⟨Nat.le_of_ble_eq_true rfl, Nat.le_of_ble_eq_true rfl⟩⟩) (k_recv hK hP.1 0 rfl rfl) (hP) rfl hl.1 rfl (Nat.le_of_ble_eq_true rfl) dX4_speed_2) ?_
  refine b_ifeq (tgt := 23) hC dX4_speed_5 (by decide) (fun zc5 => ?_) (fun zc5 => ?_)
  · refine lv_ldc (v := (-2000000001 : Int32)) hx hb hown (hts _ w_204) dX4_speed_23 ?_
    exact k_iret hC hr hlk dX4_speed_25 (by first | (rw [if_neg zc5]; done) | (rw [if_pos zc5, e_zj]; done) | (rw [if_pos zc5, e_zj]; rfl))
  · obtain ⟨zj, h_zj, ev_zj⟩ := in_card (v := v) hcn hc (zc5)
    have e_zj : (v).toNatClampNeg = zj := by rw [ev_zj]; exact nI_clamp (by omega)
    have hl : lv_has ls 2 [(0, .ref (x 0)), (1, .int (nI zj))] := lv_eq hl (by rw [ev_zj])
    obtain ⟨qj, qoj, qij, hrf, hcd, hn1, hn2, hn3⟩ := hP.2.2 zj (by first | assumption | omega)
    refine lv_aload_n hx hb dX4_speed_8 rfl (lvG hl rfl) ?_
    refine va_get (D := g.1) (ci := 4) (v := .ref (a 0)) (C := RX4) (T := TX4) (N := 7) hx hb hts i_X4 hown hK.1 hP.1 0 rfl rfl 0 (by decide) (hts _ w_175) (fun _ h9 => h9) rfl dX4_speed_9 ?_
    refine va_get (D := g.1) (ci := 3) (v := .ref (a 6)) (C := RX3) (T := TX3) (N := 13) hx hb hts i_X3 hown hK.1 hP.1 1 rfl rfl 11 (by decide) (hts _ w_144) (fun _ h9 => h9) rfl dX4_speed_12 ?_
    refine lv_iload_n hx hb dX4_speed_15 rfl (lvG hl rfl) ?_
    refine q_ald (k := zj) (b := qj) hC hK hP.1 4 rfl (by omega) (by decide) (hrf) dX4_speed_16 ?_
    refine va_get (D := g.1) (ci := 0) (v := .int (f (62 + 44 * zj + 1))) (C := RX0) (T := TX0) (N := 4) hx hb hts i_X0 hown hK.1 hcd 0 rfl rfl 1 (by decide) (hts _ w_47) (fun _ h9 => h9) rfl dX4_speed_17 ?_
    refine lv_goto (tgt := 25) hx hb dX4_speed_20 (by decide) ?_
    exact k_iret hC hr hlk dX4_speed_25 (by first | (rw [if_neg zc5]; done) | (rw [if_pos zc5, e_zj]; done) | (rw [if_pos zc5, e_zj]; rfl))
theorem L_X4_X0_wholeArea : LnkV RX4 199 yX0_wholeArea cX0_wholeArea 3 (some .int) 0 := ⟨w_345, w_346, w_347, w_26, w_348, ⟨by decide +kernel, by decide +kernel⟩, by decide +kernel⟩
set_option maxHeartbeats 4000000 in
set_option maxRecDepth 100000 in
theorem c_X4_area (l : Launch) (g : kG) (x : Nat → Nat) (a : Nat → Nat) (n : Nat) (f : Nat → Int32) (cn : Nat) (rf : Nat → Option Nat) (hc : f 61 = nI cn) (hcn : cn ≤ 10) (v : Int32) : PI l yX4_area cX4_area 2 (some .int) (rr 2 43) [.ref (x 0), .int (v)] ((XB g x a n f cn rf)) g (if s_okC f v then s_ar (s_pt f (v).toNatClampNeg) 20 else cINV) := by
  refine kOf (by decide) (Nat.le_of_ble_eq_true rfl) (fun p e s m below meth c ls hC hr hlk hin hK hP hl => ?_)
  have hx := hC.1
  have hb := hC.2.1
  have hml := hC.2.2.1
  have hown := hC.2.2.2.1
  have hts := hC.2.2.2.2
  have hl : lv_has ls 2 [(0, .ref (x 0)), (1, .int (v))] := hl
  refine lv_aload_n hx hb dX4_area_0 rfl (lvG hl rfl) ?_
  refine lv_iload_n hx hb dX4_area_1 rfl (lvG hl rfl) ?_
  refine k_callPI (k_goV (rest := []) hC hK (c_X4_isCard l g x a n f cn rf hc hcn v) L_X4_X4_isCard (⟨⟨Nat.le_of_ble_eq_true rfl, Nat.le_of_ble_eq_true rfl⟩, ⟨rfl, rfl⟩, ⟨Nat.le_of_ble_eq_true rfl, Nat.le_of_ble_eq_true rfl⟩⟩) (k_recv hK hP.1 0 rfl rfl) (hP) rfl hl.1 rfl (Nat.le_of_ble_eq_true rfl) dX4_area_2) ?_
  refine b_ifeq (tgt := 23) hC dX4_area_5 (by decide) (fun zc5 => ?_) (fun zc5 => ?_)
  · refine lv_ldc (v := (-2000000001 : Int32)) hx hb hown (hts _ w_204) dX4_area_23 ?_
    exact k_iret hC hr hlk dX4_area_25 (by first | (rw [if_neg zc5]; done) | (rw [if_pos zc5, e_zj]; done) | (rw [if_pos zc5, e_zj]; rfl))
  · obtain ⟨zj, h_zj, ev_zj⟩ := in_card (v := v) hcn hc (zc5)
    have e_zj : (v).toNatClampNeg = zj := by rw [ev_zj]; exact nI_clamp (by omega)
    have hl : lv_has ls 2 [(0, .ref (x 0)), (1, .int (nI zj))] := lv_eq hl (by rw [ev_zj])
    obtain ⟨qj, qoj, qij, hrf, hcd, hn1, hn2, hn3⟩ := hP.2.2 zj (by first | assumption | omega)
    refine lv_aload_n hx hb dX4_area_8 rfl (lvG hl rfl) ?_
    refine va_get (D := g.1) (ci := 4) (v := .ref (a 0)) (C := RX4) (T := TX4) (N := 7) hx hb hts i_X4 hown hK.1 hP.1 0 rfl rfl 0 (by decide) (hts _ w_175) (fun _ h9 => h9) rfl dX4_area_9 ?_
    refine va_get (D := g.1) (ci := 3) (v := .ref (a 6)) (C := RX3) (T := TX3) (N := 13) hx hb hts i_X3 hown hK.1 hP.1 1 rfl rfl 11 (by decide) (hts _ w_144) (fun _ h9 => h9) rfl dX4_area_12 ?_
    refine lv_iload_n hx hb dX4_area_15 rfl (lvG hl rfl) ?_
    refine q_ald (k := zj) (b := qj) hC hK hP.1 4 rfl (by omega) (by decide) (hrf) dX4_area_16 ?_
    refine k_callPI (k_goV (rest := []) hC hK (c_X0_wholeArea l g qj qoj qij (f (62 + 44 * zj)) (f (62 + 44 * zj + 1)) ((s_pt f zj))) L_X4_X0_wholeArea (⟨⟨Nat.le_of_ble_eq_true rfl, Nat.le_of_ble_eq_true rfl⟩, ⟨rfl, rfl⟩, ⟨Nat.le_of_ble_eq_true rfl, Nat.le_of_ble_eq_true rfl⟩⟩) (k_recv hK hcd 0 rfl rfl) (hcd) rfl hl.1 rfl (Nat.le_of_ble_eq_true rfl) dX4_area_17) ?_
    refine lv_goto (tgt := 25) hx hb dX4_area_20 (by decide) ?_
    exact k_iret hC hr hlk dX4_area_25 (by first | (rw [if_neg zc5]; done) | (rw [if_pos zc5, e_zj]; done) | (rw [if_pos zc5, e_zj]; rfl))
theorem L_X4_X0_sumOfForwardAreas : LnkV RX4 203 yX0_sumOfForwardAreas cX0_sumOfForwardAreas 3 (some .int) 0 := ⟨w_529, w_530, w_531, w_26, w_532, ⟨by decide +kernel, by decide +kernel⟩, by decide +kernel⟩
set_option maxHeartbeats 4000000 in
set_option maxRecDepth 100000 in
theorem c_X4_forwardArea (l : Launch) (g : kG) (x : Nat → Nat) (a : Nat → Nat) (n : Nat) (f : Nat → Int32) (cn : Nat) (rf : Nat → Option Nat) (hc : f 61 = nI cn) (hcn : cn ≤ 10) (v : Int32) (hR : ∀ j, j < cn → ∀ k, k ≤ 20 → rg (s_df (s_pt f j) k)) : PI l yX4_forwardArea cX4_forwardArea 2 (some .int) (rr 4 88) [.ref (x 0), .int (v)] ((XB g x a n f cn rf)) g (if s_okC f v then s_pa (s_pt f (v).toNatClampNeg) True 20 else cINV) := by
  refine kOf (by decide) (Nat.le_of_ble_eq_true rfl) (fun p e s m below meth c ls hC hr hlk hin hK hP hl => ?_)
  have hx := hC.1
  have hb := hC.2.1
  have hml := hC.2.2.1
  have hown := hC.2.2.2.1
  have hts := hC.2.2.2.2
  have hl : lv_has ls 2 [(0, .ref (x 0)), (1, .int (v))] := hl
  refine lv_aload_n hx hb dX4_forwardArea_0 rfl (lvG hl rfl) ?_
  refine lv_iload_n hx hb dX4_forwardArea_1 rfl (lvG hl rfl) ?_
  refine k_callPI (k_goV (rest := []) hC hK (c_X4_isCard l g x a n f cn rf hc hcn v) L_X4_X4_isCard (⟨⟨Nat.le_of_ble_eq_true rfl, Nat.le_of_ble_eq_true rfl⟩, ⟨rfl, rfl⟩, ⟨Nat.le_of_ble_eq_true rfl, Nat.le_of_ble_eq_true rfl⟩⟩) (k_recv hK hP.1 0 rfl rfl) (hP) rfl hl.1 rfl (Nat.le_of_ble_eq_true rfl) dX4_forwardArea_2) ?_
  refine b_ifeq (tgt := 23) hC dX4_forwardArea_5 (by decide) (fun zc5 => ?_) (fun zc5 => ?_)
  · refine lv_ldc (v := (-2000000001 : Int32)) hx hb hown (hts _ w_204) dX4_forwardArea_23 ?_
    exact k_iret hC hr hlk dX4_forwardArea_25 (by first | (rw [if_neg zc5]; done) | (rw [if_pos zc5, e_zj, fa_fwd _ (hR zj h_zj) 20 (by omega)]; done) | (rw [if_pos zc5, e_zj, fa_fwd _ (hR zj h_zj) 20 (by omega)]; rfl))
  · obtain ⟨zj, h_zj, ev_zj⟩ := in_card (v := v) hcn hc (zc5)
    have e_zj : (v).toNatClampNeg = zj := by rw [ev_zj]; exact nI_clamp (by omega)
    have hl : lv_has ls 2 [(0, .ref (x 0)), (1, .int (nI zj))] := lv_eq hl (by rw [ev_zj])
    obtain ⟨qj, qoj, qij, hrf, hcd, hn1, hn2, hn3⟩ := hP.2.2 zj (by first | assumption | omega)
    refine lv_aload_n hx hb dX4_forwardArea_8 rfl (lvG hl rfl) ?_
    refine va_get (D := g.1) (ci := 4) (v := .ref (a 0)) (C := RX4) (T := TX4) (N := 7) hx hb hts i_X4 hown hK.1 hP.1 0 rfl rfl 0 (by decide) (hts _ w_175) (fun _ h9 => h9) rfl dX4_forwardArea_9 ?_
    refine va_get (D := g.1) (ci := 3) (v := .ref (a 6)) (C := RX3) (T := TX3) (N := 13) hx hb hts i_X3 hown hK.1 hP.1 1 rfl rfl 11 (by decide) (hts _ w_144) (fun _ h9 => h9) rfl dX4_forwardArea_12 ?_
    refine lv_iload_n hx hb dX4_forwardArea_15 rfl (lvG hl rfl) ?_
    refine q_ald (k := zj) (b := qj) hC hK hP.1 4 rfl (by omega) (by decide) (hrf) dX4_forwardArea_16 ?_
    refine k_callPI (k_goV (rest := []) hC hK (c_X0_sumOfForwardAreas l g qj qoj qij (f (62 + 44 * zj)) (f (62 + 44 * zj + 1)) ((s_pt f zj))) L_X4_X0_sumOfForwardAreas (⟨⟨Nat.le_of_ble_eq_true rfl, Nat.le_of_ble_eq_true rfl⟩, ⟨rfl, rfl⟩, ⟨Nat.le_of_ble_eq_true rfl, Nat.le_of_ble_eq_true rfl⟩⟩) (k_recv hK hcd 0 rfl rfl) (hcd) rfl hl.1 rfl (Nat.le_of_ble_eq_true rfl) dX4_forwardArea_17) ?_
    refine lv_goto (tgt := 25) hx hb dX4_forwardArea_20 (by decide) ?_
    exact k_iret hC hr hlk dX4_forwardArea_25 (by first | (rw [if_neg zc5]; done) | (rw [if_pos zc5, e_zj, fa_fwd _ (hR zj h_zj) 20 (by omega)]; done) | (rw [if_pos zc5, e_zj, fa_fwd _ (hR zj h_zj) 20 (by omega)]; rfl))
theorem L_X4_X0_sumOfLoopAreas : LnkV RX4 206 yX0_sumOfLoopAreas cX0_sumOfLoopAreas 3 (some .int) 0 := ⟨w_543, w_544, w_545, w_26, w_546, ⟨by decide +kernel, by decide +kernel⟩, by decide +kernel⟩
set_option maxHeartbeats 4000000 in
set_option maxRecDepth 100000 in
theorem c_X4_loopArea (l : Launch) (g : kG) (x : Nat → Nat) (a : Nat → Nat) (n : Nat) (f : Nat → Int32) (cn : Nat) (rf : Nat → Option Nat) (hc : f 61 = nI cn) (hcn : cn ≤ 10) (v : Int32) (hR : ∀ j, j < cn → ∀ k, k ≤ 20 → rg (s_df (s_pt f j) k)) : PI l yX4_loopArea cX4_loopArea 2 (some .int) (rr 4 88) [.ref (x 0), .int (v)] ((XB g x a n f cn rf)) g (if s_okC f v then s_pa (s_pt f (v).toNatClampNeg) False 20 else cINV) := by
  refine kOf (by decide) (Nat.le_of_ble_eq_true rfl) (fun p e s m below meth c ls hC hr hlk hin hK hP hl => ?_)
  have hx := hC.1
  have hb := hC.2.1
  have hml := hC.2.2.1
  have hown := hC.2.2.2.1
  have hts := hC.2.2.2.2
  have hl : lv_has ls 2 [(0, .ref (x 0)), (1, .int (v))] := hl
  refine lv_aload_n hx hb dX4_loopArea_0 rfl (lvG hl rfl) ?_
  refine lv_iload_n hx hb dX4_loopArea_1 rfl (lvG hl rfl) ?_
  refine k_callPI (k_goV (rest := []) hC hK (c_X4_isCard l g x a n f cn rf hc hcn v) L_X4_X4_isCard (⟨⟨Nat.le_of_ble_eq_true rfl, Nat.le_of_ble_eq_true rfl⟩, ⟨rfl, rfl⟩, ⟨Nat.le_of_ble_eq_true rfl, Nat.le_of_ble_eq_true rfl⟩⟩) (k_recv hK hP.1 0 rfl rfl) (hP) rfl hl.1 rfl (Nat.le_of_ble_eq_true rfl) dX4_loopArea_2) ?_
  refine b_ifeq (tgt := 23) hC dX4_loopArea_5 (by decide) (fun zc5 => ?_) (fun zc5 => ?_)
  · refine lv_ldc (v := (-2000000001 : Int32)) hx hb hown (hts _ w_204) dX4_loopArea_23 ?_
    exact k_iret hC hr hlk dX4_loopArea_25 (by first | (rw [if_neg zc5]; done) | (rw [if_pos zc5, e_zj, fa_loop _ (hR zj h_zj) 20 (by omega)]; done) | (rw [if_pos zc5, e_zj, fa_loop _ (hR zj h_zj) 20 (by omega)]; rfl))
  · obtain ⟨zj, h_zj, ev_zj⟩ := in_card (v := v) hcn hc (zc5)
    have e_zj : (v).toNatClampNeg = zj := by rw [ev_zj]; exact nI_clamp (by omega)
    have hl : lv_has ls 2 [(0, .ref (x 0)), (1, .int (nI zj))] := lv_eq hl (by rw [ev_zj])
    obtain ⟨qj, qoj, qij, hrf, hcd, hn1, hn2, hn3⟩ := hP.2.2 zj (by first | assumption | omega)
    refine lv_aload_n hx hb dX4_loopArea_8 rfl (lvG hl rfl) ?_
    refine va_get (D := g.1) (ci := 4) (v := .ref (a 0)) (C := RX4) (T := TX4) (N := 7) hx hb hts i_X4 hown hK.1 hP.1 0 rfl rfl 0 (by decide) (hts _ w_175) (fun _ h9 => h9) rfl dX4_loopArea_9 ?_
    refine va_get (D := g.1) (ci := 3) (v := .ref (a 6)) (C := RX3) (T := TX3) (N := 13) hx hb hts i_X3 hown hK.1 hP.1 1 rfl rfl 11 (by decide) (hts _ w_144) (fun _ h9 => h9) rfl dX4_loopArea_12 ?_
    refine lv_iload_n hx hb dX4_loopArea_15 rfl (lvG hl rfl) ?_
    refine q_ald (k := zj) (b := qj) hC hK hP.1 4 rfl (by omega) (by decide) (hrf) dX4_loopArea_16 ?_
    refine k_callPI (k_goV (rest := []) hC hK (c_X0_sumOfLoopAreas l g qj qoj qij (f (62 + 44 * zj)) (f (62 + 44 * zj + 1)) ((s_pt f zj))) L_X4_X0_sumOfLoopAreas (⟨⟨Nat.le_of_ble_eq_true rfl, Nat.le_of_ble_eq_true rfl⟩, ⟨rfl, rfl⟩, ⟨Nat.le_of_ble_eq_true rfl, Nat.le_of_ble_eq_true rfl⟩⟩) (k_recv hK hcd 0 rfl rfl) (hcd) rfl hl.1 rfl (Nat.le_of_ble_eq_true rfl) dX4_loopArea_17) ?_
    refine lv_goto (tgt := 25) hx hb dX4_loopArea_20 (by decide) ?_
    exact k_iret hC hr hlk dX4_loopArea_25 (by first | (rw [if_neg zc5]; done) | (rw [if_pos zc5, e_zj, fa_loop _ (hR zj h_zj) 20 (by omega)]; done) | (rw [if_pos zc5, e_zj, fa_loop _ (hR zj h_zj) 20 (by omega)]; rfl))
theorem L_X4_X0_stationsBelowZero : LnkV RX4 209 yX0_stationsBelowZero cX0_stationsBelowZero 3 (some .int) 0 := ⟨w_551, w_552, w_553, w_26, w_554, ⟨by decide +kernel, by decide +kernel⟩, by decide +kernel⟩
set_option maxHeartbeats 4000000 in
set_option maxRecDepth 100000 in
theorem c_X4_loopStations (l : Launch) (g : kG) (x : Nat → Nat) (a : Nat → Nat) (n : Nat) (f : Nat → Int32) (cn : Nat) (rf : Nat → Option Nat) (hc : f 61 = nI cn) (hcn : cn ≤ 10) (v : Int32) : PI l yX4_loopStations cX4_loopStations 2 (some .int) (rr 2 43) [.ref (x 0), .int (v)] ((XB g x a n f cn rf)) g (if s_okC f v then s_ls (s_pt f (v).toNatClampNeg) 21 else cINV) := by
  refine kOf (by decide) (Nat.le_of_ble_eq_true rfl) (fun p e s m below meth c ls hC hr hlk hin hK hP hl => ?_)
  have hx := hC.1
  have hb := hC.2.1
  have hml := hC.2.2.1
  have hown := hC.2.2.2.1
  have hts := hC.2.2.2.2
  have hl : lv_has ls 2 [(0, .ref (x 0)), (1, .int (v))] := hl
  refine lv_aload_n hx hb dX4_loopStations_0 rfl (lvG hl rfl) ?_
  refine lv_iload_n hx hb dX4_loopStations_1 rfl (lvG hl rfl) ?_
  refine k_callPI (k_goV (rest := []) hC hK (c_X4_isCard l g x a n f cn rf hc hcn v) L_X4_X4_isCard (⟨⟨Nat.le_of_ble_eq_true rfl, Nat.le_of_ble_eq_true rfl⟩, ⟨rfl, rfl⟩, ⟨Nat.le_of_ble_eq_true rfl, Nat.le_of_ble_eq_true rfl⟩⟩) (k_recv hK hP.1 0 rfl rfl) (hP) rfl hl.1 rfl (Nat.le_of_ble_eq_true rfl) dX4_loopStations_2) ?_
  refine b_ifeq (tgt := 23) hC dX4_loopStations_5 (by decide) (fun zc5 => ?_) (fun zc5 => ?_)
  · refine lv_ldc (v := (-2000000001 : Int32)) hx hb hown (hts _ w_204) dX4_loopStations_23 ?_
    exact k_iret hC hr hlk dX4_loopStations_25 (by first | (rw [if_neg zc5]; done) | (rw [if_pos zc5, e_zj]; done) | (rw [if_pos zc5, e_zj]; rfl))
  · obtain ⟨zj, h_zj, ev_zj⟩ := in_card (v := v) hcn hc (zc5)
    have e_zj : (v).toNatClampNeg = zj := by rw [ev_zj]; exact nI_clamp (by omega)
    have hl : lv_has ls 2 [(0, .ref (x 0)), (1, .int (nI zj))] := lv_eq hl (by rw [ev_zj])
    obtain ⟨qj, qoj, qij, hrf, hcd, hn1, hn2, hn3⟩ := hP.2.2 zj (by first | assumption | omega)
    refine lv_aload_n hx hb dX4_loopStations_8 rfl (lvG hl rfl) ?_
    refine va_get (D := g.1) (ci := 4) (v := .ref (a 0)) (C := RX4) (T := TX4) (N := 7) hx hb hts i_X4 hown hK.1 hP.1 0 rfl rfl 0 (by decide) (hts _ w_175) (fun _ h9 => h9) rfl dX4_loopStations_9 ?_
    refine va_get (D := g.1) (ci := 3) (v := .ref (a 6)) (C := RX3) (T := TX3) (N := 13) hx hb hts i_X3 hown hK.1 hP.1 1 rfl rfl 11 (by decide) (hts _ w_144) (fun _ h9 => h9) rfl dX4_loopStations_12 ?_
    refine lv_iload_n hx hb dX4_loopStations_15 rfl (lvG hl rfl) ?_
    refine q_ald (k := zj) (b := qj) hC hK hP.1 4 rfl (by omega) (by decide) (hrf) dX4_loopStations_16 ?_
    refine k_callPI (k_goV (rest := []) hC hK (c_X0_stationsBelowZero l g qj qoj qij (f (62 + 44 * zj)) (f (62 + 44 * zj + 1)) ((s_pt f zj))) L_X4_X0_stationsBelowZero (⟨⟨Nat.le_of_ble_eq_true rfl, Nat.le_of_ble_eq_true rfl⟩, ⟨rfl, rfl⟩, ⟨Nat.le_of_ble_eq_true rfl, Nat.le_of_ble_eq_true rfl⟩⟩) (k_recv hK hcd 0 rfl rfl) (hcd) rfl hl.1 rfl (Nat.le_of_ble_eq_true rfl) dX4_loopStations_17) ?_
    refine lv_goto (tgt := 25) hx hb dX4_loopStations_20 (by decide) ?_
    exact k_iret hC hr hlk dX4_loopStations_25 (by first | (rw [if_neg zc5]; done) | (rw [if_pos zc5, e_zj]; done) | (rw [if_pos zc5, e_zj]; rfl))
