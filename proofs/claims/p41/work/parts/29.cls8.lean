theorem fo_sel (f : Nat → Int32) (j : Nat) {k : Nat} (h : k < 4) : k_sel (k_fo f (s_pt f j) 0) (k_fo f (s_pt f j) 1) (k_fo f (s_pt f j) 2) (k_fo f (s_pt f j) 3) k = nI (s_ev f j k) := by
  rcases (show k = 0 ∨ k = 1 ∨ k = 2 ∨ k = 3 by omega) with q | q | q | q <;> subst q <;> simp [k_sel, k_fo, s_ev]
theorem XTS {g : kG} {x : Nat → Nat} {tr te fo so : Nat → Int32} {H : Heap} (h : XT g x tr te fo so H) : XS g x H := ⟨tr, te, fo, so, h⟩
theorem L_X4_X4_findEvents : LnkV RX4 222 yX4_findEvents cX4_findEvents 2 none 1 := ⟨w_357, w_359, w_7, w_25, w_360, ⟨by decide +kernel, by decide +kernel⟩, by decide +kernel⟩
set_option maxHeartbeats 4000000 in
set_option maxRecDepth 100000 in
theorem c_X4_event (l : Launch) (g : kG) (x : Nat → Nat) (a : Nat → Nat) (n : Nat) (f : Nat → Int32) (cn : Nat) (rf : Nat → Option Nat) (hc : f 61 = nI cn) (hcn : cn ≤ 10) (v : Int32) (ev : Int32) (hX : ∀ j, j < cn → s_ad f (s_pt f j) ≤ 20) : MI l yX4_event cX4_event 3 (some .int) (rr 4 88) [.ref (x 0), .int (v), .int (ev)] ((fun H => XB g x a n f cn rf H ∧ XS g x H)) g 0 0 (SC x) (fun r H1 => r = (if s_okC f v ∧ (nI 0 ≤ ev ∧ ev ≤ nI 3) then nI (s_ev f (v).toNatClampNeg (ev).toNatClampNeg) else cINV) ∧ XS g x H1) := by
  refine kOf (by decide) (Nat.le_of_ble_eq_true rfl) (fun p e s m below meth c ls hC hr hlk hin hK hP hl => ?_)
  have hx := hC.1
  have hb := hC.2.1
  have hml := hC.2.2.1
  have hown := hC.2.2.2.1
  have hts := hC.2.2.2.2
  have hl : lv_has ls 3 [(0, .ref (x 0)), (1, .int (v)), (2, .int (ev))] := hl
  obtain ⟨hB, ⟨tr, te, fo, so, hT, hD⟩⟩ := hP
  have hS : va_S (SC x) s.heap s.heap [] := va_S.rf
  refine lv_aload_n hx hb dX4_event_0 rfl (lvG hl rfl) ?_
  refine lv_iload_n hx hb dX4_event_1 rfl (lvG hl rfl) ?_
  refine k_callPI (k_goV (rest := []) hC hK (c_X4_isCard l g x a n f cn rf hc hcn v) L_X4_X4_isCard (⟨⟨Nat.le_of_ble_eq_true rfl, Nat.le_of_ble_eq_true rfl⟩, ⟨rfl, rfl⟩, ⟨Nat.le_of_ble_eq_true rfl, Nat.le_of_ble_eq_true rfl⟩⟩) (k_recv hK hB.1 0 rfl rfl) (hB) rfl hl.1 rfl (Nat.le_of_ble_eq_true rfl) dX4_event_2) ?_
  refine b_ifeq (tgt := 15) hC dX4_event_5 (by decide) (fun zc5 => ?_) (fun zc5 => ?_)
  · refine lv_ldc (v := (-2000000001 : Int32)) hx hb hown (hts _ w_204) dX4_event_15 ?_
    exact k_iretM hC hr hlk hS dX4_event_17 (⟨by first | (rw [if_neg (fun q => zc5 q.1)]; done) | (rw [if_neg (fun q => zc12 q.2)]; done), XTS ⟨hT, hD⟩⟩)
  · refine lv_iload_n hx hb dX4_event_8 rfl (lvG hl rfl) ?_
    refine k_callPI (k_goS (rest := []) hC hK (c_X4_isEvent l g ev) L_X4_X4_isEvent (⟨⟨Nat.le_of_ble_eq_true rfl, Nat.le_of_ble_eq_true rfl⟩, ⟨rfl, rfl⟩, ⟨Nat.le_of_ble_eq_true rfl, Nat.le_of_ble_eq_true rfl⟩⟩) (trivial) rfl hl.1 rfl (Nat.le_of_ble_eq_true rfl) dX4_event_9) ?_
    refine b_ifne (tgt := 18) hC dX4_event_12 (by decide) (fun zc12 => ?_) (fun zc12 => ?_)
    · obtain ⟨zj, h_zj, ev_zj⟩ := in_card (v := v) hcn hc (zc5)
      have e_zj : (v).toNatClampNeg = zj := by rw [ev_zj]; exact nI_clamp (by omega)
      have hl : lv_has ls 3 [(0, .ref (x 0)), (1, .int (nI zj)), (2, .int (ev))] := lv_eq hl (by rw [ev_zj])
      obtain ⟨qj, qoj, qij, hrf, hcd, hn1, hn2, hn3⟩ := hB.2.2 zj (by first | assumption | omega)
      have hO : XC g x qj qoj qij (f (62 + 44 * zj)) (f (62 + 44 * zj + 1)) (s_pt f zj) s.heap := ⟨hcd, hn1, hn2, hn3⟩
      obtain ⟨zk, h_zk, ev_zk⟩ := in_nat (by decide) (zc12)
      have e_zk : (ev).toNatClampNeg = zk := by rw [ev_zk]; exact nI_clamp (by omega)
      have hl : lv_has ls 3 [(0, .ref (x 0)), (1, .int (nI zj)), (2, .int (nI zk))] := lv_eq hl (by rw [ev_zk])
      refine lv_aload_n hx hb dX4_event_18 rfl (lvG hl rfl) ?_
      refine lv_aload_n hx hb dX4_event_19 rfl (lvG hl rfl) ?_
      refine va_get (D := g.1) (ci := 4) (v := .ref (a 0)) (C := RX4) (T := TX4) (N := 7) hx hb hts i_X4 hown hK.1 hB.1 0 rfl rfl 0 (by decide) (hts _ w_175) (fun _ h9 => h9) rfl dX4_event_20 ?_
      refine va_get (D := g.1) (ci := 3) (v := .ref (a 6)) (C := RX3) (T := TX3) (N := 13) hx hb hts i_X3 hown hK.1 hB.1 1 rfl rfl 11 (by decide) (hts _ w_144) (fun _ h9 => h9) rfl dX4_event_23 ?_
      refine lv_iload_n hx hb dX4_event_26 rfl (lvG hl rfl) ?_
      refine q_ald (k := zj) (b := qj) hC hK hB.1 4 rfl (by omega) (by decide) (hrf) dX4_event_27 ?_
      refine k_callMV0 (k_goV (rest := []) hC hK (c_X4_findEvents l g x a n f cn rf tr te fo so qj qoj qij (f (62 + 44 * zj)) (f (62 + 44 * zj + 1)) ((s_pt f zj)) (hX zj h_zj)) L_X4_X4_findEvents (⟨⟨Nat.le_of_ble_eq_true rfl, Nat.le_of_ble_eq_true rfl⟩, ⟨rfl, rfl⟩, ⟨Nat.le_of_ble_eq_true rfl, Nat.le_of_ble_eq_true rfl⟩⟩) (k_recv hK hB.1 0 rfl rfl) (⟨hB, ⟨hT, hD⟩, hO⟩) rfl hl.1 rfl (Nat.le_of_ble_eq_true rfl) dX4_event_28) hS (fun _ h => h) (fun H_1 locs_2 hQ_3 hz_ hk_5 hS_4 => ?_)
      obtain ⟨hT_6, hD_7⟩ := hQ_3
      have hB_8 : XB g x a n f cn rf H_1 := hB.at hS_4
      have hO_9 := hO.at hS_4
      refine lv_aload_n hx hb dX4_event_31 rfl (lvG hl rfl) ?_
      refine va_get (D := g.1) (ci := 4) (v := .ref (x 6)) (C := RX4) (T := TX4) (N := 7) hx hb hts i_X4 hown hK.1 hB_8.1 0 rfl rfl 5 (by decide) (hts _ w_180) (fun _ h9 => h9) rfl dX4_event_32 ?_
      refine lv_iload_n hx hb dX4_event_35 rfl (lvG hl rfl) ?_
      refine k_callPI (k_goV (rest := []) hC hK (c_X2_stationOf l g (x 6) (k_fo f ((s_pt f zj)) 0) (k_fo f ((s_pt f zj)) 1) (k_fo f ((s_pt f zj)) 2) (k_fo f ((s_pt f zj)) 3) zk (by first | assumption | omega)) L_X4_X2_stationOf (⟨⟨Nat.le_of_ble_eq_true rfl, Nat.le_of_ble_eq_true rfl⟩, ⟨rfl, rfl⟩, ⟨Nat.le_of_ble_eq_true rfl, Nat.le_of_ble_eq_true rfl⟩⟩) (k_recv hK hT_6 3 rfl rfl) ((hT_6.sub [3] rfl)) rfl hl.1 rfl (Nat.le_of_ble_eq_true rfl) dX4_event_36) ?_
      exact k_iretM hC hr hlk hS_4 dX4_event_39 (⟨by rw [if_pos ⟨zc5, zc12⟩, e_zj, e_zk, fo_sel f zj (by omega)], XTS ⟨hT_6, hD_7⟩⟩)
    · refine lv_ldc (v := (-2000000001 : Int32)) hx hb hown (hts _ w_204) dX4_event_15 ?_
      exact k_iretM hC hr hlk hS dX4_event_17 (⟨by first | (rw [if_neg (fun q => zc5 q.1)]; done) | (rw [if_neg (fun q => zc12 q.2)]; done), XTS ⟨hT, hD⟩⟩)
set_option maxHeartbeats 4000000 in
set_option maxRecDepth 100000 in
theorem c_X4_foundLateness (l : Launch) (g : kG) (x : Nat → Nat) (a : Nat → Nat) (n : Nat) (f : Nat → Int32) (cn : Nat) (rf : Nat → Option Nat) (tr : Nat → Int32) (te : Nat → Int32) (fo : Nat → Int32) (so : Nat → Int32) (ye : Nat) (v0 : Int32) (v1 : Int32) (v2 : Int32) (v3 : Int32) (ev : Nat) (hev : ev < 4) : PI l yX4_foundLateness cX4_foundLateness 4 (some .int) (rr 1 21) [.ref (x 0), .ref ye, .int (nI ev)] ((fun H => XB g x a n f cn rf H ∧ XT g x tr te fo so H ∧ va_P g.1 kCl [cE ye v0 v1 v2 v3] H)) g (k_la (k_sel (fo 0) (fo 1) (fo 2) (fo 3) ev - k_sel v0 v1 v2 v3 ev) ev) := by
  refine kOf (by decide) (Nat.le_of_ble_eq_true rfl) (fun p e s m below meth c ls hC hr hlk hin hK hP hl => ?_)
  have hx := hC.1
  have hb := hC.2.1
  have hml := hC.2.2.1
  have hown := hC.2.2.2.1
  have hts := hC.2.2.2.2
  have hl : lv_has ls 4 [(0, .ref (x 0)), (1, .ref ye), (2, .int (nI ev))] := hl
  obtain ⟨hB, ⟨hT, hD⟩, hV⟩ := hP
  refine lv_aload_n hx hb dX4_foundLateness_0 rfl (lvG hl rfl) ?_
  refine va_get (D := g.1) (ci := 4) (v := .ref (x 6)) (C := RX4) (T := TX4) (N := 7) hx hb hts i_X4 hown hK.1 hB.1 0 rfl rfl 5 (by decide) (hts _ w_180) (fun _ h9 => h9) rfl dX4_foundLateness_1 ?_
  refine lv_iload_n hx hb dX4_foundLateness_4 rfl (lvG hl rfl) ?_
  refine k_callPI (k_goV (rest := []) hC hK (c_X2_stationOf l g (x 6) (fo 0) (fo 1) (fo 2) (fo 3) ev hev) L_X4_X2_stationOf (⟨⟨Nat.le_of_ble_eq_true rfl, Nat.le_of_ble_eq_true rfl⟩, ⟨rfl, rfl⟩, ⟨Nat.le_of_ble_eq_true rfl, Nat.le_of_ble_eq_true rfl⟩⟩) (k_recv hK hT 3 rfl rfl) ((hT.sub [3] rfl)) rfl hl.1 rfl (Nat.le_of_ble_eq_true rfl) dX4_foundLateness_5) ?_
  refine lv_aload_n hx hb dX4_foundLateness_8 rfl (lvG hl rfl) ?_
  refine lv_iload_n hx hb dX4_foundLateness_9 rfl (lvG hl rfl) ?_
  refine k_callPI (k_goV (rest := [.int (k_sel (fo 0) (fo 1) (fo 2) (fo 3) ev)]) hC hK (c_X2_stationOf l g ye v0 v1 v2 v3 ev hev) L_X4_X2_stationOf (⟨⟨Nat.le_of_ble_eq_true rfl, Nat.le_of_ble_eq_true rfl⟩, ⟨rfl, rfl⟩, ⟨Nat.le_of_ble_eq_true rfl, Nat.le_of_ble_eq_true rfl⟩⟩) (k_recv hK hV 0 rfl rfl) (hV) rfl hl.1 rfl (Nat.le_of_ble_eq_true rfl) dX4_foundLateness_10) ?_
  refine lv_isub hx hb dX4_foundLateness_13 ?_
  refine lv_istore_n (lv' := [(3, .int ((k_sel (fo 0) (fo 1) (fo 2) (fo 3) ev) - (k_sel v0 v1 v2 v3 ev))), (0, .ref (x 0)), (1, .ref ye), (2, .int (nI ev))]) hx hb dX4_foundLateness_14 rfl hl (by decide) rfl (fun ls hl => ?_)
  refine lv_iload_n hx hb dX4_foundLateness_15 rfl (lvG hl rfl) ?_
  refine lv_iconst (v := nI 3) hx hb dX4_foundLateness_16 (by decide) ?_
  refine n_icmp_ne (tgt := 25) hC dX4_foundLateness_17 (by omega) (by omega) (by decide) (fun zc17 => ?_) (fun zc17 => ?_)
  · refine lv_iload_n hx hb dX4_foundLateness_25 rfl (lvG hl rfl) ?_
    exact k_iret hC hr hlk dX4_foundLateness_26 (by unfold k_la; first | (rw [if_pos zc17]; done) | (rw [if_neg zc17]; done))
  · refine lv_iload_n hx hb dX4_foundLateness_20 rfl (lvG hl rfl) ?_
    refine lv_ineg hx hb dX4_foundLateness_21 ?_
    refine lv_goto (tgt := 26) hx hb dX4_foundLateness_22 (by decide) ?_
    exact k_iret hC hr hlk dX4_foundLateness_26 (by unfold k_la; first | (rw [if_pos zc17]; done) | (rw [if_neg zc17]; done))
def k_of (fo : Nat → Int32) (v0 v1 v2 v3 d : Int32) : Int32 := nI 0 + s_size (k_la (k_sel (fo 0) (fo 1) (fo 2) (fo 3) 0 - k_sel v0 v1 v2 v3 0) 0 - d) + s_size (k_la (k_sel (fo 0) (fo 1) (fo 2) (fo 3) 1 - k_sel v0 v1 v2 v3 1) 1 - d) + s_size (k_la (k_sel (fo 0) (fo 1) (fo 2) (fo 3) 2 - k_sel v0 v1 v2 v3 2) 2 - d) + s_size (k_la (k_sel (fo 0) (fo 1) (fo 2) (fo 3) 3 - k_sel v0 v1 v2 v3 3) 3 - d)
theorem la_eq (f : Nat → Int32) (j b : Nat) {k : Nat} (h : k < 4) (hb : b = 8 + 4 * s_en f j) : k_la (k_sel (k_fo f (s_pt f j) 0) (k_fo f (s_pt f j) 1) (k_fo f (s_pt f j) 2) (k_fo f (s_pt f j) 3) k - k_sel (f b) (f (b + 1)) (f (b + 2)) (f (b + 3)) k) k = s_la f j k := by
  unfold k_la s_la
  rw [fo_sel f j h, sel_eq f b h, hb]
theorem of_eq (f : Nat → Int32) (j b : Nat) (d : Int32) (hb : b = 8 + 4 * s_en f j) : k_of (k_fo f (s_pt f j)) (f b) (f (b + 1)) (f (b + 2)) (f (b + 3)) d = s_of f j d := by
  unfold k_of s_of
  rw [la_eq f j b (by decide) hb, la_eq f j b (by decide) hb, la_eq f j b (by decide) hb, la_eq f j b (by decide) hb]
theorem L_X4_X4_foundLateness : LnkV RX4 225 yX4_foundLateness cX4_foundLateness 4 (some .int) 2 := ⟨w_490, w_492, w_20, w_25, w_493, ⟨by decide +kernel, by decide +kernel⟩, by decide +kernel⟩
set_option maxHeartbeats 4000000 in
set_option maxRecDepth 100000 in
theorem c_X4_deviationFrom (l : Launch) (g : kG) (x : Nat → Nat) (a : Nat → Nat) (n : Nat) (f : Nat → Int32) (cn : Nat) (rf : Nat → Option Nat) (tr : Nat → Int32) (te : Nat → Int32) (fo : Nat → Int32) (so : Nat → Int32) (ye : Nat) (v0 : Int32) (v1 : Int32) (v2 : Int32) (v3 : Int32) (d : Int32) : PI l yX4_deviationFrom cX4_deviationFrom 5 (some .int) (rr 2 44) [.ref (x 0), .ref ye, .int (d)] ((fun H => XB g x a n f cn rf H ∧ XT g x tr te fo so H ∧ va_P g.1 kCl [cE ye v0 v1 v2 v3] H)) g (k_of fo v0 v1 v2 v3 d) := by
  refine kOf (by decide) (Nat.le_of_ble_eq_true rfl) (fun p e s m below meth c ls hC hr hlk hin hK hP hl => ?_)
  have hx := hC.1
  have hb := hC.2.1
  have hml := hC.2.2.1
  have hown := hC.2.2.2.1
  have hts := hC.2.2.2.2
  have hl : lv_has ls 5 [(0, .ref (x 0)), (1, .ref ye), (2, .int (d))] := hl
  obtain ⟨hB, ⟨hT, hD⟩, hV⟩ := hP
  refine lv_iconst (v := nI 0) hx hb dX4_deviationFrom_0 (by decide) ?_
  refine lv_istore_n (lv' := [(3, .int (nI 0)), (0, .ref (x 0)), (1, .ref ye), (2, .int (d))]) hx hb dX4_deviationFrom_1 rfl hl (by decide) rfl (fun ls hl => ?_)
  refine lv_iconst (v := nI 0) hx hb dX4_deviationFrom_2 (by decide) ?_
  refine lv_istore (lv' := [(4, .int (nI 0)), (3, .int (nI 0)), (0, .ref (x 0)), (1, .ref ye), (2, .int (d))]) hx hb dX4_deviationFrom_3 hl (by decide) rfl (fun ls hl => ?_)
  refine lv_iload hx hb dX4_deviationFrom_5 (lvG hl rfl) ?_
  refine lv_iconst (v := nI 3) hx hb dX4_deviationFrom_7 (by decide) ?_
  refine n_icmp_gt (tgt := 32) hC dX4_deviationFrom_8 (by decide) (by decide) (by decide) (fun c => absurd c (by decide)) (fun _ => ?_)
  refine lv_iload_n hx hb dX4_deviationFrom_11 rfl (lvG hl rfl) ?_
  refine lv_aload_n hx hb dX4_deviationFrom_12 rfl (lvG hl rfl) ?_
  refine lv_aload_n hx hb dX4_deviationFrom_13 rfl (lvG hl rfl) ?_
  refine lv_iload hx hb dX4_deviationFrom_14 (lvG hl rfl) ?_
  refine k_callPI (k_goV (rest := [.int (nI 0)]) hC hK (c_X4_foundLateness l g x a n f cn rf tr te fo so ye v0 v1 v2 v3 0 (by first | assumption | omega)) L_X4_X4_foundLateness (⟨⟨Nat.le_of_ble_eq_true rfl, Nat.le_of_ble_eq_true rfl⟩, ⟨rfl, rfl⟩, ⟨Nat.le_of_ble_eq_true rfl, Nat.le_of_ble_eq_true rfl⟩⟩) (k_recv hK hB.1 0 rfl rfl) (⟨hB, ⟨hT, hD⟩, hV⟩) rfl hl.1 rfl (Nat.le_of_ble_eq_true rfl) dX4_deviationFrom_16) ?_
  refine lv_iload_n hx hb dX4_deviationFrom_19 rfl (lvG hl rfl) ?_
  refine lv_isub hx hb dX4_deviationFrom_20 ?_
  refine va_mabs hx hb (hml.trans hl.1.symm) hown (hts _ w_494) (hts _ w_495) (hts _ w_31) (hts _ w_496) (Nat.le_of_ble_eq_true rfl) (Nat.le_of_ble_eq_true rfl) (Nat.le_of_ble_eq_true rfl) (Nat.le_of_ble_eq_true rfl) dX4_deviationFrom_21 ?_
  rw [abs_size]
  refine lv_iadd hx hb dX4_deviationFrom_24 ?_
  refine lv_istore_n (lv' := [(3, .int ((nI 0) + (s_size ((k_la (k_sel (fo 0) (fo 1) (fo 2) (fo 3) 0 - k_sel v0 v1 v2 v3 0) 0) - d)))), (4, .int (nI 0)), (0, .ref (x 0)), (1, .ref ye), (2, .int (d))]) hx hb dX4_deviationFrom_25 rfl hl (by decide) rfl (fun ls hl => ?_)
  refine n_iinc (lv' := [(4, .int (nI 1)), (3, .int ((nI 0) + (s_size ((k_la (k_sel (fo 0) (fo 1) (fo 2) (fo 3) 0 - k_sel v0 v1 v2 v3 0) 0) - d)))), (0, .ref (x 0)), (1, .ref ye), (2, .int (d))]) hC dX4_deviationFrom_26 hl rfl (by decide) rfl (fun ls hl => ?_)
  refine lv_goto (tgt := 5) hx hb dX4_deviationFrom_29 (by decide) ?_
  refine lv_iload hx hb dX4_deviationFrom_5 (lvG hl rfl) ?_
  refine lv_iconst (v := nI 3) hx hb dX4_deviationFrom_7 (by decide) ?_
  refine n_icmp_gt (tgt := 32) hC dX4_deviationFrom_8 (by decide) (by decide) (by decide) (fun c => absurd c (by decide)) (fun _ => ?_)
  refine lv_iload_n hx hb dX4_deviationFrom_11 rfl (lvG hl rfl) ?_
  refine lv_aload_n hx hb dX4_deviationFrom_12 rfl (lvG hl rfl) ?_
  refine lv_aload_n hx hb dX4_deviationFrom_13 rfl (lvG hl rfl) ?_
  refine lv_iload hx hb dX4_deviationFrom_14 (lvG hl rfl) ?_
  refine k_callPI (k_goV (rest := [.int ((nI 0) + (s_size ((k_la (k_sel (fo 0) (fo 1) (fo 2) (fo 3) 0 - k_sel v0 v1 v2 v3 0) 0) - d)))]) hC hK (c_X4_foundLateness l g x a n f cn rf tr te fo so ye v0 v1 v2 v3 1 (by first | assumption | omega)) L_X4_X4_foundLateness (⟨⟨Nat.le_of_ble_eq_true rfl, Nat.le_of_ble_eq_true rfl⟩, ⟨rfl, rfl⟩, ⟨Nat.le_of_ble_eq_true rfl, Nat.le_of_ble_eq_true rfl⟩⟩) (k_recv hK hB.1 0 rfl rfl) (⟨hB, ⟨hT, hD⟩, hV⟩) rfl hl.1 rfl (Nat.le_of_ble_eq_true rfl) dX4_deviationFrom_16) ?_
  refine lv_iload_n hx hb dX4_deviationFrom_19 rfl (lvG hl rfl) ?_
  refine lv_isub hx hb dX4_deviationFrom_20 ?_
  refine va_mabs hx hb (hml.trans hl.1.symm) hown (hts _ w_494) (hts _ w_495) (hts _ w_31) (hts _ w_496) (Nat.le_of_ble_eq_true rfl) (Nat.le_of_ble_eq_true rfl) (Nat.le_of_ble_eq_true rfl) (Nat.le_of_ble_eq_true rfl) dX4_deviationFrom_21 ?_
  rw [abs_size]
  refine lv_iadd hx hb dX4_deviationFrom_24 ?_
  refine lv_istore_n (lv' := [(3, .int (((nI 0) + (s_size ((k_la (k_sel (fo 0) (fo 1) (fo 2) (fo 3) 0 - k_sel v0 v1 v2 v3 0) 0) - d))) + (s_size ((k_la (k_sel (fo 0) (fo 1) (fo 2) (fo 3) 1 - k_sel v0 v1 v2 v3 1) 1) - d)))), (4, .int (nI 1)), (0, .ref (x 0)), (1, .ref ye), (2, .int (d))]) hx hb dX4_deviationFrom_25 rfl hl (by decide) rfl (fun ls hl => ?_)
  refine n_iinc (lv' := [(4, .int (nI 2)), (3, .int (((nI 0) + (s_size ((k_la (k_sel (fo 0) (fo 1) (fo 2) (fo 3) 0 - k_sel v0 v1 v2 v3 0) 0) - d))) + (s_size ((k_la (k_sel (fo 0) (fo 1) (fo 2) (fo 3) 1 - k_sel v0 v1 v2 v3 1) 1) - d)))), (0, .ref (x 0)), (1, .ref ye), (2, .int (d))]) hC dX4_deviationFrom_26 hl rfl (by decide) rfl (fun ls hl => ?_)
  refine lv_goto (tgt := 5) hx hb dX4_deviationFrom_29 (by decide) ?_
  refine lv_iload hx hb dX4_deviationFrom_5 (lvG hl rfl) ?_
  refine lv_iconst (v := nI 3) hx hb dX4_deviationFrom_7 (by decide) ?_
  refine n_icmp_gt (tgt := 32) hC dX4_deviationFrom_8 (by decide) (by decide) (by decide) (fun c => absurd c (by decide)) (fun _ => ?_)
  refine lv_iload_n hx hb dX4_deviationFrom_11 rfl (lvG hl rfl) ?_
  refine lv_aload_n hx hb dX4_deviationFrom_12 rfl (lvG hl rfl) ?_
  refine lv_aload_n hx hb dX4_deviationFrom_13 rfl (lvG hl rfl) ?_
  refine lv_iload hx hb dX4_deviationFrom_14 (lvG hl rfl) ?_
  refine k_callPI (k_goV (rest := [.int (((nI 0) + (s_size ((k_la (k_sel (fo 0) (fo 1) (fo 2) (fo 3) 0 - k_sel v0 v1 v2 v3 0) 0) - d))) + (s_size ((k_la (k_sel (fo 0) (fo 1) (fo 2) (fo 3) 1 - k_sel v0 v1 v2 v3 1) 1) - d)))]) hC hK (c_X4_foundLateness l g x a n f cn rf tr te fo so ye v0 v1 v2 v3 2 (by first | assumption | omega)) L_X4_X4_foundLateness (⟨⟨Nat.le_of_ble_eq_true rfl, Nat.le_of_ble_eq_true rfl⟩, ⟨rfl, rfl⟩, ⟨Nat.le_of_ble_eq_true rfl, Nat.le_of_ble_eq_true rfl⟩⟩) (k_recv hK hB.1 0 rfl rfl) (⟨hB, ⟨hT, hD⟩, hV⟩) rfl hl.1 rfl (Nat.le_of_ble_eq_true rfl) dX4_deviationFrom_16) ?_
  refine lv_iload_n hx hb dX4_deviationFrom_19 rfl (lvG hl rfl) ?_
  refine lv_isub hx hb dX4_deviationFrom_20 ?_
  refine va_mabs hx hb (hml.trans hl.1.symm) hown (hts _ w_494) (hts _ w_495) (hts _ w_31) (hts _ w_496) (Nat.le_of_ble_eq_true rfl) (Nat.le_of_ble_eq_true rfl) (Nat.le_of_ble_eq_true rfl) (Nat.le_of_ble_eq_true rfl) dX4_deviationFrom_21 ?_
  rw [abs_size]
  refine lv_iadd hx hb dX4_deviationFrom_24 ?_
  refine lv_istore_n (lv' := [(3, .int ((((nI 0) + (s_size ((k_la (k_sel (fo 0) (fo 1) (fo 2) (fo 3) 0 - k_sel v0 v1 v2 v3 0) 0) - d))) + (s_size ((k_la (k_sel (fo 0) (fo 1) (fo 2) (fo 3) 1 - k_sel v0 v1 v2 v3 1) 1) - d))) + (s_size ((k_la (k_sel (fo 0) (fo 1) (fo 2) (fo 3) 2 - k_sel v0 v1 v2 v3 2) 2) - d)))), (4, .int (nI 2)), (0, .ref (x 0)), (1, .ref ye), (2, .int (d))]) hx hb dX4_deviationFrom_25 rfl hl (by decide) rfl (fun ls hl => ?_)
  refine n_iinc (lv' := [(4, .int (nI 3)), (3, .int ((((nI 0) + (s_size ((k_la (k_sel (fo 0) (fo 1) (fo 2) (fo 3) 0 - k_sel v0 v1 v2 v3 0) 0) - d))) + (s_size ((k_la (k_sel (fo 0) (fo 1) (fo 2) (fo 3) 1 - k_sel v0 v1 v2 v3 1) 1) - d))) + (s_size ((k_la (k_sel (fo 0) (fo 1) (fo 2) (fo 3) 2 - k_sel v0 v1 v2 v3 2) 2) - d)))), (0, .ref (x 0)), (1, .ref ye), (2, .int (d))]) hC dX4_deviationFrom_26 hl rfl (by decide) rfl (fun ls hl => ?_)
  refine lv_goto (tgt := 5) hx hb dX4_deviationFrom_29 (by decide) ?_
  refine lv_iload hx hb dX4_deviationFrom_5 (lvG hl rfl) ?_
  refine lv_iconst (v := nI 3) hx hb dX4_deviationFrom_7 (by decide) ?_
  refine n_icmp_gt (tgt := 32) hC dX4_deviationFrom_8 (by decide) (by decide) (by decide) (fun c => absurd c (by decide)) (fun _ => ?_)
  refine lv_iload_n hx hb dX4_deviationFrom_11 rfl (lvG hl rfl) ?_
  refine lv_aload_n hx hb dX4_deviationFrom_12 rfl (lvG hl rfl) ?_
  refine lv_aload_n hx hb dX4_deviationFrom_13 rfl (lvG hl rfl) ?_
  refine lv_iload hx hb dX4_deviationFrom_14 (lvG hl rfl) ?_
  refine k_callPI (k_goV (rest := [.int ((((nI 0) + (s_size ((k_la (k_sel (fo 0) (fo 1) (fo 2) (fo 3) 0 - k_sel v0 v1 v2 v3 0) 0) - d))) + (s_size ((k_la (k_sel (fo 0) (fo 1) (fo 2) (fo 3) 1 - k_sel v0 v1 v2 v3 1) 1) - d))) + (s_size ((k_la (k_sel (fo 0) (fo 1) (fo 2) (fo 3) 2 - k_sel v0 v1 v2 v3 2) 2) - d)))]) hC hK (c_X4_foundLateness l g x a n f cn rf tr te fo so ye v0 v1 v2 v3 3 (by first | assumption | omega)) L_X4_X4_foundLateness (⟨⟨Nat.le_of_ble_eq_true rfl, Nat.le_of_ble_eq_true rfl⟩, ⟨rfl, rfl⟩, ⟨Nat.le_of_ble_eq_true rfl, Nat.le_of_ble_eq_true rfl⟩⟩) (k_recv hK hB.1 0 rfl rfl) (⟨hB, ⟨hT, hD⟩, hV⟩) rfl hl.1 rfl (Nat.le_of_ble_eq_true rfl) dX4_deviationFrom_16) ?_
  refine lv_iload_n hx hb dX4_deviationFrom_19 rfl (lvG hl rfl) ?_
  refine lv_isub hx hb dX4_deviationFrom_20 ?_
  refine va_mabs hx hb (hml.trans hl.1.symm) hown (hts _ w_494) (hts _ w_495) (hts _ w_31) (hts _ w_496) (Nat.le_of_ble_eq_true rfl) (Nat.le_of_ble_eq_true rfl) (Nat.le_of_ble_eq_true rfl) (Nat.le_of_ble_eq_true rfl) dX4_deviationFrom_21 ?_
  rw [abs_size]
  refine lv_iadd hx hb dX4_deviationFrom_24 ?_
  refine lv_istore_n (lv' := [(3, .int (((((nI 0) + (s_size ((k_la (k_sel (fo 0) (fo 1) (fo 2) (fo 3) 0 - k_sel v0 v1 v2 v3 0) 0) - d))) + (s_size ((k_la (k_sel (fo 0) (fo 1) (fo 2) (fo 3) 1 - k_sel v0 v1 v2 v3 1) 1) - d))) + (s_size ((k_la (k_sel (fo 0) (fo 1) (fo 2) (fo 3) 2 - k_sel v0 v1 v2 v3 2) 2) - d))) + (s_size ((k_la (k_sel (fo 0) (fo 1) (fo 2) (fo 3) 3 - k_sel v0 v1 v2 v3 3) 3) - d)))), (4, .int (nI 3)), (0, .ref (x 0)), (1, .ref ye), (2, .int (d))]) hx hb dX4_deviationFrom_25 rfl hl (by decide) rfl (fun ls hl => ?_)
  refine n_iinc (lv' := [(4, .int (nI 4)), (3, .int (((((nI 0) + (s_size ((k_la (k_sel (fo 0) (fo 1) (fo 2) (fo 3) 0 - k_sel v0 v1 v2 v3 0) 0) - d))) + (s_size ((k_la (k_sel (fo 0) (fo 1) (fo 2) (fo 3) 1 - k_sel v0 v1 v2 v3 1) 1) - d))) + (s_size ((k_la (k_sel (fo 0) (fo 1) (fo 2) (fo 3) 2 - k_sel v0 v1 v2 v3 2) 2) - d))) + (s_size ((k_la (k_sel (fo 0) (fo 1) (fo 2) (fo 3) 3 - k_sel v0 v1 v2 v3 3) 3) - d)))), (0, .ref (x 0)), (1, .ref ye), (2, .int (d))]) hC dX4_deviationFrom_26 hl rfl (by decide) rfl (fun ls hl => ?_)
  refine lv_goto (tgt := 5) hx hb dX4_deviationFrom_29 (by decide) ?_
  refine lv_iload hx hb dX4_deviationFrom_5 (lvG hl rfl) ?_
  refine lv_iconst (v := nI 3) hx hb dX4_deviationFrom_7 (by decide) ?_
  refine n_icmp_gt (tgt := 32) hC dX4_deviationFrom_8 (by decide) (by decide) (by decide) (fun _ => ?_) (fun c => absurd c (by decide))
  refine lv_iload_n hx hb dX4_deviationFrom_32 rfl (lvG hl rfl) ?_
  exact k_iret hC hr hlk dX4_deviationFrom_33 (rfl)
set_option maxHeartbeats 4000000 in
set_option maxRecDepth 100000 in
theorem c_X4_lateness (l : Launch) (g : kG) (x : Nat → Nat) (a : Nat → Nat) (n : Nat) (f : Nat → Int32) (cn : Nat) (rf : Nat → Option Nat) (hc : f 61 = nI cn) (hcn : cn ≤ 10) (v : Int32) (ev : Int32) (hX : ∀ j, j < cn → s_ad f (s_pt f j) ≤ 20) (hE : ∀ j, j < cn → f (62 + 44 * j) = nI (s_en f j) ∧ s_en f j ≤ 1) : MI l yX4_lateness cX4_lateness 3 (some .int) (rr 4 88) [.ref (x 0), .int (v), .int (ev)] ((fun H => XB g x a n f cn rf H ∧ XS g x H)) g 0 0 (SC x) (fun r H1 => r = (if s_okC f v ∧ (nI 0 ≤ ev ∧ ev ≤ nI 3) then s_la f (v).toNatClampNeg (ev).toNatClampNeg else cINV) ∧ XS g x H1) := by
  refine kOf (by decide) (Nat.le_of_ble_eq_true rfl) (fun p e s m below meth c ls hC hr hlk hin hK hP hl => ?_)
  have hx := hC.1
  have hb := hC.2.1
  have hml := hC.2.2.1
  have hown := hC.2.2.2.1
  have hts := hC.2.2.2.2
  have hl : lv_has ls 3 [(0, .ref (x 0)), (1, .int (v)), (2, .int (ev))] := hl
  obtain ⟨hB, ⟨tr, te, fo, so, hT, hD⟩⟩ := hP
  have hS : va_S (SC x) s.heap s.heap [] := va_S.rf
  refine lv_aload_n hx hb dX4_lateness_0 rfl (lvG hl rfl) ?_
  refine lv_iload_n hx hb dX4_lateness_1 rfl (lvG hl rfl) ?_
  refine k_callPI (k_goV (rest := []) hC hK (c_X4_isCard l g x a n f cn rf hc hcn v) L_X4_X4_isCard (⟨⟨Nat.le_of_ble_eq_true rfl, Nat.le_of_ble_eq_true rfl⟩, ⟨rfl, rfl⟩, ⟨Nat.le_of_ble_eq_true rfl, Nat.le_of_ble_eq_true rfl⟩⟩) (k_recv hK hB.1 0 rfl rfl) (hB) rfl hl.1 rfl (Nat.le_of_ble_eq_true rfl) dX4_lateness_2) ?_
  refine b_ifeq (tgt := 15) hC dX4_lateness_5 (by decide) (fun zc5 => ?_) (fun zc5 => ?_)
  · refine lv_ldc (v := (-2000000001 : Int32)) hx hb hown (hts _ w_204) dX4_lateness_15 ?_
    exact k_iretM hC hr hlk hS dX4_lateness_17 (⟨by first | (rw [if_neg (fun q => zc5 q.1)]; done) | (rw [if_neg (fun q => zc12 q.2)]; done), XTS ⟨hT, hD⟩⟩)
  · refine lv_iload_n hx hb dX4_lateness_8 rfl (lvG hl rfl) ?_
    refine k_callPI (k_goS (rest := []) hC hK (c_X4_isEvent l g ev) L_X4_X4_isEvent (⟨⟨Nat.le_of_ble_eq_true rfl, Nat.le_of_ble_eq_true rfl⟩, ⟨rfl, rfl⟩, ⟨Nat.le_of_ble_eq_true rfl, Nat.le_of_ble_eq_true rfl⟩⟩) (trivial) rfl hl.1 rfl (Nat.le_of_ble_eq_true rfl) dX4_lateness_9) ?_
    refine b_ifne (tgt := 18) hC dX4_lateness_12 (by decide) (fun zc12 => ?_) (fun zc12 => ?_)
    · obtain ⟨zj, h_zj, ev_zj⟩ := in_card (v := v) hcn hc (zc5)
      have e_zj : (v).toNatClampNeg = zj := by rw [ev_zj]; exact nI_clamp (by omega)
      have hl : lv_has ls 3 [(0, .ref (x 0)), (1, .int (nI zj)), (2, .int (ev))] := lv_eq hl (by rw [ev_zj])
      obtain ⟨qj, qoj, qij, hrf, hcd, hn1, hn2, hn3⟩ := hB.2.2 zj (by first | assumption | omega)
      have hO : XC g x qj qoj qij (f (62 + 44 * zj)) (f (62 + 44 * zj + 1)) (s_pt f zj) s.heap := ⟨hcd, hn1, hn2, hn3⟩
      obtain ⟨zk, h_zk, ev_zk⟩ := in_nat (by decide) (zc12)
      have e_zk : (ev).toNatClampNeg = zk := by rw [ev_zk]; exact nI_clamp (by omega)
      have hl : lv_has ls 3 [(0, .ref (x 0)), (1, .int (nI zj)), (2, .int (nI zk))] := lv_eq hl (by rw [ev_zk])
      have hE1 := hE zj (by first | assumption | omega)
      rcases (show s_en f zj = 0 ∨ s_en f zj = 1 by omega) with z0 | z0
      · refine lv_aload_n hx hb dX4_lateness_18 rfl (lvG hl rfl) ?_
        refine lv_aload_n hx hb dX4_lateness_19 rfl (lvG hl rfl) ?_
        refine va_get (D := g.1) (ci := 4) (v := .ref (a 0)) (C := RX4) (T := TX4) (N := 7) hx hb hts i_X4 hown hK.1 hB.1 0 rfl rfl 0 (by decide) (hts _ w_175) (fun _ h9 => h9) rfl dX4_lateness_20 ?_
        refine va_get (D := g.1) (ci := 3) (v := .ref (a 6)) (C := RX3) (T := TX3) (N := 13) hx hb hts i_X3 hown hK.1 hB.1 1 rfl rfl 11 (by decide) (hts _ w_144) (fun _ h9 => h9) rfl dX4_lateness_23 ?_
        refine lv_iload_n hx hb dX4_lateness_26 rfl (lvG hl rfl) ?_
        refine q_ald (k := zj) (b := qj) hC hK hB.1 4 rfl (by omega) (by decide) (hrf) dX4_lateness_27 ?_
        refine k_callMV0 (k_goV (rest := []) hC hK (c_X4_findEvents l g x a n f cn rf tr te fo so qj qoj qij (f (62 + 44 * zj)) (f (62 + 44 * zj + 1)) ((s_pt f zj)) (hX zj h_zj)) L_X4_X4_findEvents (⟨⟨Nat.le_of_ble_eq_true rfl, Nat.le_of_ble_eq_true rfl⟩, ⟨rfl, rfl⟩, ⟨Nat.le_of_ble_eq_true rfl, Nat.le_of_ble_eq_true rfl⟩⟩) (k_recv hK hB.1 0 rfl rfl) (⟨hB, ⟨hT, hD⟩, hO⟩) rfl hl.1 rfl (Nat.le_of_ble_eq_true rfl) dX4_lateness_28) hS (fun _ h => h) (fun H_1 locs_2 hQ_3 hz_ hk_5 hS_4 => ?_)
        obtain ⟨hT_6, hD_7⟩ := hQ_3
        have hB_8 : XB g x a n f cn rf H_1 := hB.at hS_4
        have hO_9 := hO.at hS_4
        refine lv_aload_n hx hb dX4_lateness_31 rfl (lvG hl rfl) ?_
        refine lv_aload_n hx hb dX4_lateness_32 rfl (lvG hl rfl) ?_
        refine va_get (D := g.1) (ci := 4) (v := .ref (a 0)) (C := RX4) (T := TX4) (N := 7) hx hb hts i_X4 hown hK.1 hB_8.1 0 rfl rfl 0 (by decide) (hts _ w_175) (fun _ h9 => h9) rfl dX4_lateness_33 ?_
        refine lv_aload_n hx hb dX4_lateness_36 rfl (lvG hl rfl) ?_
        refine va_get (D := g.1) (ci := 4) (v := .ref (a 0)) (C := RX4) (T := TX4) (N := 7) hx hb hts i_X4 hown hK.1 hB_8.1 0 rfl rfl 0 (by decide) (hts _ w_175) (fun _ h9 => h9) rfl dX4_lateness_37 ?_
        refine va_get (D := g.1) (ci := 3) (v := .ref (a 6)) (C := RX3) (T := TX3) (N := 13) hx hb hts i_X3 hown hK.1 hB_8.1 1 rfl rfl 11 (by decide) (hts _ w_144) (fun _ h9 => h9) rfl dX4_lateness_40 ?_
        refine lv_iload_n hx hb dX4_lateness_43 rfl (lvG hl rfl) ?_
        refine q_ald (k := zj) (b := qj) hC hK hB_8.1 4 rfl (by omega) (by decide) (hrf) dX4_lateness_44 ?_
        refine va_get (D := g.1) (ci := 0) (v := .int (f (62 + 44 * zj))) (C := RX0) (T := TX0) (N := 4) hx hb hts i_X0 hown hK.1 hO_9.1 0 rfl rfl 0 (by decide) (hts _ w_46) (fun _ h9 => h9) rfl dX4_lateness_45 ?_
        rw [hE1.1, z0]
        refine k_callPR (k_goV (rest := [.ref (x 0)]) hC hK (c_X3_valvesOf l g a f (nI 0)) L_X4_X3_valvesOf (⟨⟨Nat.le_of_ble_eq_true rfl, Nat.le_of_ble_eq_true rfl⟩, ⟨rfl, rfl⟩, ⟨Nat.le_of_ble_eq_true rfl, Nat.le_of_ble_eq_true rfl⟩⟩) (k_recv hK hB_8.1 1 rfl rfl) ((hB_8.1.sub [1] rfl)) rfl hl.1 rfl (Nat.le_of_ble_eq_true rfl) dX4_lateness_48) ?_
        rw [if_pos (show nI 0 = nI 0 from rfl)]
        refine lv_iload_n hx hb dX4_lateness_51 rfl (lvG hl rfl) ?_
        refine k_callPI (k_goV (rest := []) hC hK (c_X4_foundLateness l g x a n f cn rf tr te (k_fo f ((s_pt f zj))) so (a 1) (f 8) (f 9) (f 10) (f 11) zk (by first | assumption | omega)) L_X4_X4_foundLateness (⟨⟨Nat.le_of_ble_eq_true rfl, Nat.le_of_ble_eq_true rfl⟩, ⟨rfl, rfl⟩, ⟨Nat.le_of_ble_eq_true rfl, Nat.le_of_ble_eq_true rfl⟩⟩) (k_recv hK hB_8.1 0 rfl rfl) (⟨hB_8, ⟨hT_6, hD_7⟩, (hB_8.1.sub [2] rfl)⟩) rfl hl.1 rfl (Nat.le_of_ble_eq_true rfl) dX4_lateness_52) ?_
        exact k_iretM hC hr hlk hS_4 dX4_lateness_55 (⟨by rw [if_pos ⟨zc5, zc12⟩, e_zj, e_zk]; first | exact la_eq f zj 8 (by omega) (by omega) | exact la_eq f zj 12 (by omega) (by omega), XTS ⟨hT_6, hD_7⟩⟩)
      · refine lv_aload_n hx hb dX4_lateness_18 rfl (lvG hl rfl) ?_
        refine lv_aload_n hx hb dX4_lateness_19 rfl (lvG hl rfl) ?_
        refine va_get (D := g.1) (ci := 4) (v := .ref (a 0)) (C := RX4) (T := TX4) (N := 7) hx hb hts i_X4 hown hK.1 hB.1 0 rfl rfl 0 (by decide) (hts _ w_175) (fun _ h9 => h9) rfl dX4_lateness_20 ?_
        refine va_get (D := g.1) (ci := 3) (v := .ref (a 6)) (C := RX3) (T := TX3) (N := 13) hx hb hts i_X3 hown hK.1 hB.1 1 rfl rfl 11 (by decide) (hts _ w_144) (fun _ h9 => h9) rfl dX4_lateness_23 ?_
        refine lv_iload_n hx hb dX4_lateness_26 rfl (lvG hl rfl) ?_
        refine q_ald (k := zj) (b := qj) hC hK hB.1 4 rfl (by omega) (by decide) (hrf) dX4_lateness_27 ?_
        refine k_callMV0 (k_goV (rest := []) hC hK (c_X4_findEvents l g x a n f cn rf tr te fo so qj qoj qij (f (62 + 44 * zj)) (f (62 + 44 * zj + 1)) ((s_pt f zj)) (hX zj h_zj)) L_X4_X4_findEvents (⟨⟨Nat.le_of_ble_eq_true rfl, Nat.le_of_ble_eq_true rfl⟩, ⟨rfl, rfl⟩, ⟨Nat.le_of_ble_eq_true rfl, Nat.le_of_ble_eq_true rfl⟩⟩) (k_recv hK hB.1 0 rfl rfl) (⟨hB, ⟨hT, hD⟩, hO⟩) rfl hl.1 rfl (Nat.le_of_ble_eq_true rfl) dX4_lateness_28) hS (fun _ h => h) (fun H_10 locs_11 hQ_12 hz_ hk_14 hS_13 => ?_)
        obtain ⟨hT_15, hD_16⟩ := hQ_12
        have hB_17 : XB g x a n f cn rf H_10 := hB.at hS_13
        have hO_18 := hO.at hS_13
        refine lv_aload_n hx hb dX4_lateness_31 rfl (lvG hl rfl) ?_
        refine lv_aload_n hx hb dX4_lateness_32 rfl (lvG hl rfl) ?_
        refine va_get (D := g.1) (ci := 4) (v := .ref (a 0)) (C := RX4) (T := TX4) (N := 7) hx hb hts i_X4 hown hK.1 hB_17.1 0 rfl rfl 0 (by decide) (hts _ w_175) (fun _ h9 => h9) rfl dX4_lateness_33 ?_
        refine lv_aload_n hx hb dX4_lateness_36 rfl (lvG hl rfl) ?_
        refine va_get (D := g.1) (ci := 4) (v := .ref (a 0)) (C := RX4) (T := TX4) (N := 7) hx hb hts i_X4 hown hK.1 hB_17.1 0 rfl rfl 0 (by decide) (hts _ w_175) (fun _ h9 => h9) rfl dX4_lateness_37 ?_
        refine va_get (D := g.1) (ci := 3) (v := .ref (a 6)) (C := RX3) (T := TX3) (N := 13) hx hb hts i_X3 hown hK.1 hB_17.1 1 rfl rfl 11 (by decide) (hts _ w_144) (fun _ h9 => h9) rfl dX4_lateness_40 ?_
        refine lv_iload_n hx hb dX4_lateness_43 rfl (lvG hl rfl) ?_
        refine q_ald (k := zj) (b := qj) hC hK hB_17.1 4 rfl (by omega) (by decide) (hrf) dX4_lateness_44 ?_
        refine va_get (D := g.1) (ci := 0) (v := .int (f (62 + 44 * zj))) (C := RX0) (T := TX0) (N := 4) hx hb hts i_X0 hown hK.1 hO_18.1 0 rfl rfl 0 (by decide) (hts _ w_46) (fun _ h9 => h9) rfl dX4_lateness_45 ?_
        rw [hE1.1, z0]
        refine k_callPR (k_goV (rest := [.ref (x 0)]) hC hK (c_X3_valvesOf l g a f (nI 1)) L_X4_X3_valvesOf (⟨⟨Nat.le_of_ble_eq_true rfl, Nat.le_of_ble_eq_true rfl⟩, ⟨rfl, rfl⟩, ⟨Nat.le_of_ble_eq_true rfl, Nat.le_of_ble_eq_true rfl⟩⟩) (k_recv hK hB_17.1 1 rfl rfl) ((hB_17.1.sub [1] rfl)) rfl hl.1 rfl (Nat.le_of_ble_eq_true rfl) dX4_lateness_48) ?_
        rw [if_neg (show ¬ nI 1 = nI 0 by decide)]
        refine lv_iload_n hx hb dX4_lateness_51 rfl (lvG hl rfl) ?_
        refine k_callPI (k_goV (rest := []) hC hK (c_X4_foundLateness l g x a n f cn rf tr te (k_fo f ((s_pt f zj))) so (a 2) (f 12) (f 13) (f 14) (f 15) zk (by first | assumption | omega)) L_X4_X4_foundLateness (⟨⟨Nat.le_of_ble_eq_true rfl, Nat.le_of_ble_eq_true rfl⟩, ⟨rfl, rfl⟩, ⟨Nat.le_of_ble_eq_true rfl, Nat.le_of_ble_eq_true rfl⟩⟩) (k_recv hK hB_17.1 0 rfl rfl) (⟨hB_17, ⟨hT_15, hD_16⟩, (hB_17.1.sub [3] rfl)⟩) rfl hl.1 rfl (Nat.le_of_ble_eq_true rfl) dX4_lateness_52) ?_
        exact k_iretM hC hr hlk hS_13 dX4_lateness_55 (⟨by rw [if_pos ⟨zc5, zc12⟩, e_zj, e_zk]; first | exact la_eq f zj 8 (by omega) (by omega) | exact la_eq f zj 12 (by omega) (by omega), XTS ⟨hT_15, hD_16⟩⟩)
    · refine lv_ldc (v := (-2000000001 : Int32)) hx hb hown (hts _ w_204) dX4_lateness_15 ?_
      exact k_iretM hC hr hlk hS dX4_lateness_17 (⟨by first | (rw [if_neg (fun q => zc5 q.1)]; done) | (rw [if_neg (fun q => zc12 q.2)]; done), XTS ⟨hT, hD⟩⟩)
