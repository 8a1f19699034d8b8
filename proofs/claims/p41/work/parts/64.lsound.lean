theorem e_p0 {f : Nat → Int32} {cn c k : Nat} (hc : f 61 = nI cn) (hcn : cn ≤ 10) (h : c < cn) (hk : k ≤ 20) : q_prs f (nI c) (nI 0) (nI k) = s_pt f c k := by
  rw [e_prs hc hcn h (by decide) hk, Nat.mul_zero, Nat.zero_add]
theorem e_p1 {f : Nat → Int32} {cn c k : Nat} (hc : f 61 = nI cn) (hcn : cn ≤ 10) (h : c < cn) (hk : k ≤ 20) : q_prs f (nI c) (nI 1) (nI k) = s_pt f c (21 + k) := e_prs hc hcn h (by decide) hk
theorem dv_s {f : Nat → Int32} {j k : Nat} {d : Int32} : v_dv f j d (k + 1) = v_dv f j d k + (if s_la f j k < d then d - s_la f j k else s_la f j k - d) := rfl
theorem d_in {j : Nat} (h : j < 11) : -5 ≤ (nI j - nI 5).toInt ∧ (nI j - nI 5).toInt ≤ 5 := by
  have e1 : (nI j).toInt = (j : Int) := nI_toInt (by omega)
  have e2 : (nI 5).toInt = 5 := rfl
  rw [fb_subI (by omega) (by omega), e1, e2]
  omega
theorem L_L_X4_forwardArea : LnkV RL 73 yX4_forwardArea cX4_forwardArea 2 (some .int) 1 := ⟨w_525, w_526, w_527, w_25, w_528, ⟨by decide +kernel, by decide +kernel⟩, by decide +kernel⟩
theorem L_L_X4_loopArea : LnkV RL 76 yX4_loopArea cX4_loopArea 2 (some .int) 1 := ⟨w_539, w_540, w_541, w_25, w_542, ⟨by decide +kernel, by decide +kernel⟩, by decide +kernel⟩
theorem L_L_X4_area : LnkV RL 79 yX4_area cX4_area 2 (some .int) 1 := ⟨w_341, w_342, w_343, w_25, w_344, ⟨by decide +kernel, by decide +kernel⟩, by decide +kernel⟩
theorem L_L_X4_loopStations : LnkV RL 82 yX4_loopStations cX4_loopStations 2 (some .int) 1 := ⟨w_547, w_548, w_549, w_25, w_550, ⟨by decide +kernel, by decide +kernel⟩, by decide +kernel⟩
theorem L_L_X4_meanPressure : LnkV RL 85 yX4_meanPressure cX4_meanPressure 2 (some .int) 1 := ⟨w_555, w_556, w_557, w_25, w_558, ⟨by decide +kernel, by decide +kernel⟩, by decide +kernel⟩
theorem L_L_L_low : LnkS RL 88 yL_low cL_low 2 (some .int) 2 := ⟨w_412, w_413, w_24, w_414, ⟨by decide +kernel, by decide +kernel⟩, by decide +kernel⟩
theorem L_L_X4_lateness : LnkV RL 93 yX4_lateness cX4_lateness 3 (some .int) 2 := ⟨w_559, w_560, w_561, w_25, w_562, ⟨by decide +kernel, by decide +kernel⟩, by decide +kernel⟩
set_option maxHeartbeats 4000000 in
set_option maxRecDepth 100000 in
theorem c_L_isSound (l : Launch) (g : kG) (x : Nat → Nat) (a : Nat → Nat) (M : Nat → Prop) (f : Nat → Int32) (n : Nat) (cn : Nat) (hQ : QF f cn) (ca : Nat) (hca : ca < cn) (yy : Int32) : MI l yL_isSound cL_isSound 14 (some .boolean) (rr 5 115) [.ref (x 0), .int (nI ca), .int (yy)] ((XW g x a M f n)) g 0 0 (SC x) (fun r H1 => r = nI 1 ∧ XW g x a M f n H1) := by
  refine kOf (by decide) (Nat.le_of_ble_eq_true rfl) (fun p e s m below meth c ls hC hr hlk hin hK hP hl => ?_)
  have hx := hC.1
  have hb := hC.2.1
  have hml := hC.2.2.1
  have hown := hC.2.2.2.1
  have hts := hC.2.2.2.2
  have hl : lv_has ls 14 [(0, .ref (x 0)), (1, .int (nI ca)), (2, .int (yy))] := hl
  have hX := hP
  have hcn := hQ.1
  have hc := hQ.2.1
  obtain ⟨o0, o1, o2, o3, o4⟩ := ev_ord (hQ.X ca hca)
  have hrg := hQ.R ca hca
  have hen := (hQ.E ca hca).2
  have hS : va_S (SC x) s.heap s.heap [] := va_S.rf
  refine lv_iconst (v := nI 0) hx hb dL_isSound_0 (by decide) ?_
  refine lv_istore_n (lv' := [(3, .int (nI 0)), (0, .ref (x 0)), (1, .int (nI ca)), (2, .int (yy))]) hx hb dL_isSound_1 rfl hl (by decide) rfl (fun ls hl => ?_)
  refine lv_iconst (v := nI 0) hx hb dL_isSound_2 (by decide) ?_
  refine lv_istore (lv' := [(4, .int (nI 0)), (3, .int (nI 0)), (0, .ref (x 0)), (1, .int (nI ca)), (2, .int (yy))]) hx hb dL_isSound_3 hl (by decide) rfl (fun ls hl => ?_)
  refine lv_iconst (v := nI 0) hx hb dL_isSound_5 (by decide) ?_
  refine lv_istore (lv' := [(5, .int (nI 0)), (4, .int (nI 0)), (3, .int (nI 0)), (0, .ref (x 0)), (1, .int (nI ca)), (2, .int (yy))]) hx hb dL_isSound_6 hl (by decide) rfl (fun ls hl => ?_)
  refine lv_iconst (v := nI 0) hx hb dL_isSound_8 (by decide) ?_
  refine lv_istore (lv' := [(6, .int (nI 0)), (5, .int (nI 0)), (4, .int (nI 0)), (3, .int (nI 0)), (0, .ref (x 0)), (1, .int (nI ca)), (2, .int (yy))]) hx hb dL_isSound_9 hl (by decide) rfl (fun ls hl => ?_)
  have key_1 : ∀ (k_2 : Nat) (zs : Nat)  (hzs : zs ≤ 21) (hk_k_2 : 21 - zs < k_2) (ls : Array Slot) (hl : lv_has ls 14 [(6, .int (nI zs)), (5, .int (v_mo (s_pt f ca) zs)), (4, .int (s_ls (s_pt f ca) zs)), (3, .int (v_ar (s_pt f ca) zs)), (0, .ref (x 0)), (1, .int (nI ca)), (2, .int (yy))]), W p l e (rr 5 115) s m [.ref (x 0), .int (nI ca), .int (yy)].toArray below meth c s.heap [] 0 0 (MQ below (qI (SC x) (fun r H1 => r = nI 1 ∧ XW g x a M f n H1)) [.ref (x 0), .int (nI ca), .int (yy)].toArray s 0 0 (SC x)) (F0 m 11 ls ([])) := by
    intro k_2
    induction k_2 with
    | zero => intro zs hzs hk_k_2 ls hl; exact absurd hk_k_2 (Nat.not_lt_zero _)
    | succ k_2 ih_3 =>
      intro zs hzs hk_k_2 ls hl
      refine lv_iload hx hb dL_isSound_11 (lvG hl rfl) ?_
      refine lv_bipush (v := nI 21) hx hb dL_isSound_13 (by decide) ?_
      refine n_icmp_ge (tgt := 113) hC dL_isSound_15 (by omega) (by omega) (by decide) (fun zc15 => ?_) (fun zc15 => ?_)
      · have hl : lv_has ls 14 [(6, .int (nI zs)), (5, .int (v_mo (s_pt f ca) 21)), (4, .int (s_ls (s_pt f ca) 21)), (3, .int (v_ar (s_pt f ca) 21)), (0, .ref (x 0)), (1, .int (nI ca)), (2, .int (yy))] := lv_eq hl (by rw [show zs = 21 by omega])
        refine lv_aload_n hx hb dL_isSound_113 rfl (lvG hl rfl) ?_
        refine lv_iload_n hx hb dL_isSound_114 rfl (lvG hl rfl) ?_
        obtain ⟨rq_4, hB_5, hT_6, hbk_7⟩ := hX.q hc hQ.1
        refine k_callPI (k_goV (rest := []) hC hK (w_q_forwardArea l g x a n f cn rq_4 hQ (nI ca)) L_L_X4_forwardArea (⟨⟨Nat.le_of_ble_eq_true rfl, Nat.le_of_ble_eq_true rfl⟩, ⟨rfl, rfl⟩, ⟨Nat.le_of_ble_eq_true rfl, Nat.le_of_ble_eq_true rfl⟩⟩) (hX.recv hK) (hB_5) rfl hl.1 rfl (Nat.le_of_ble_eq_true rfl) dL_isSound_115) ?_
        rw [e_fwa hQ.2.1 hQ.1 hca]
        refine lv_aload_n hx hb dL_isSound_118 rfl (lvG hl rfl) ?_
        refine lv_iload_n hx hb dL_isSound_119 rfl (lvG hl rfl) ?_
        refine k_callPI (k_goV (rest := [.int (s_pa (s_pt f ca) True 20)]) hC hK (w_q_loopArea l g x a n f cn rq_4 hQ (nI ca)) L_L_X4_loopArea (⟨⟨Nat.le_of_ble_eq_true rfl, Nat.le_of_ble_eq_true rfl⟩, ⟨rfl, rfl⟩, ⟨Nat.le_of_ble_eq_true rfl, Nat.le_of_ble_eq_true rfl⟩⟩) (hX.recv hK) (hB_5) rfl hl.1 rfl (Nat.le_of_ble_eq_true rfl) dL_isSound_120) ?_
        rw [e_loa hQ.2.1 hQ.1 hca]
        refine lv_isub hx hb dL_isSound_123 ?_
        refine lv_aload_n hx hb dL_isSound_124 rfl (lvG hl rfl) ?_
        refine lv_iload_n hx hb dL_isSound_125 rfl (lvG hl rfl) ?_
        refine k_callPI (k_goV (rest := [.int ((s_pa (s_pt f ca) True 20) - (s_pa (s_pt f ca) False 20))]) hC hK (w_q_area l g x a n f cn rq_4 hQ (nI ca)) L_L_X4_area (⟨⟨Nat.le_of_ble_eq_true rfl, Nat.le_of_ble_eq_true rfl⟩, ⟨rfl, rfl⟩, ⟨Nat.le_of_ble_eq_true rfl, Nat.le_of_ble_eq_true rfl⟩⟩) (hX.recv hK) (hB_5) rfl hl.1 rfl (Nat.le_of_ble_eq_true rfl) dL_isSound_126) ?_
        rw [e_are hQ.2.1 hQ.1 hca]
        refine lv_isub hx hb dL_isSound_129 ?_
        refine lv_istore (lv' := [(6, .int (((s_pa (s_pt f ca) True 20) - (s_pa (s_pt f ca) False 20)) - (s_ar (s_pt f ca) 20))), (5, .int (v_mo (s_pt f ca) 21)), (4, .int (s_ls (s_pt f ca) 21)), (3, .int (v_ar (s_pt f ca) 21)), (0, .ref (x 0)), (1, .int (nI ca)), (2, .int (yy))]) hx hb dL_isSound_130 hl (by decide) rfl (fun ls hl => ?_)
        have hl : lv_has ls 14 [(6, .int (nI 0)), (5, .int (v_mo (s_pt f ca) 21)), (4, .int (s_ls (s_pt f ca) 21)), (3, .int (v_ar (s_pt f ca) 21)), (0, .ref (x 0)), (1, .int (nI ca)), (2, .int (yy))] := lv_eq hl (by rw [apart_0 hrg])
        refine lv_aload_n hx hb dL_isSound_132 rfl (lvG hl rfl) ?_
        refine lv_iload_n hx hb dL_isSound_133 rfl (lvG hl rfl) ?_
        refine k_callPI (k_goV (rest := []) hC hK (w_q_area l g x a n f cn rq_4 hQ (nI ca)) L_L_X4_area (⟨⟨Nat.le_of_ble_eq_true rfl, Nat.le_of_ble_eq_true rfl⟩, ⟨rfl, rfl⟩, ⟨Nat.le_of_ble_eq_true rfl, Nat.le_of_ble_eq_true rfl⟩⟩) (hX.recv hK) (hB_5) rfl hl.1 rfl (Nat.le_of_ble_eq_true rfl) dL_isSound_134) ?_
        rw [e_are hQ.2.1 hQ.1 hca]
        refine lv_iload_n hx hb dL_isSound_137 rfl (lvG hl rfl) ?_
        refine lv_icmp_ne (tgt := 212) hx hb dL_isSound_138 (by decide) (fun zc138 => ?_) (fun zc138 => ?_)
        · first | exact absurd var_eq.symm zc138 | exact absurd rfl zc148 | exact absurd zc155 (by decide) | exact absurd zc170 (Int32.not_lt.mpr (pa_nn hrg).1) | exact absurd zc178 (Int32.not_lt.mpr (pa_nn hrg).2) | exact absurd zc209 zc183
        · refine lv_aload_n hx hb dL_isSound_141 rfl (lvG hl rfl) ?_
          refine lv_iload_n hx hb dL_isSound_142 rfl (lvG hl rfl) ?_
          refine k_callPI (k_goV (rest := []) hC hK (w_q_loopStations l g x a n f cn rq_4 hQ (nI ca)) L_L_X4_loopStations (⟨⟨Nat.le_of_ble_eq_true rfl, Nat.le_of_ble_eq_true rfl⟩, ⟨rfl, rfl⟩, ⟨Nat.le_of_ble_eq_true rfl, Nat.le_of_ble_eq_true rfl⟩⟩) (hX.recv hK) (hB_5) rfl hl.1 rfl (Nat.le_of_ble_eq_true rfl) dL_isSound_143) ?_
          rw [e_los hQ.2.1 hQ.1 hca]
          refine lv_iload hx hb dL_isSound_146 (lvG hl rfl) ?_
          refine lv_icmp_ne (tgt := 212) hx hb dL_isSound_148 (by decide) (fun zc148 => ?_) (fun zc148 => ?_)
          · first | exact absurd var_eq.symm zc138 | exact absurd rfl zc148 | exact absurd zc155 (by decide) | exact absurd zc170 (Int32.not_lt.mpr (pa_nn hrg).1) | exact absurd zc178 (Int32.not_lt.mpr (pa_nn hrg).2) | exact absurd zc209 zc183
          · refine lv_iload hx hb dL_isSound_151 (lvG hl rfl) ?_
            refine lv_bipush (v := (-20 : Int32)) hx hb dL_isSound_153 (by decide) ?_
            refine lv_icmp_lt (tgt := 212) hx hb dL_isSound_155 (by decide) (fun zc155 => ?_) (fun zc155 => ?_)
            · first | exact absurd var_eq.symm zc138 | exact absurd rfl zc148 | exact absurd zc155 (by decide) | exact absurd zc170 (Int32.not_lt.mpr (pa_nn hrg).1) | exact absurd zc178 (Int32.not_lt.mpr (pa_nn hrg).2) | exact absurd zc209 zc183
            · refine lv_iload hx hb dL_isSound_158 (lvG hl rfl) ?_
              refine lv_bipush (v := nI 20) hx hb dL_isSound_160 (by decide) ?_
              refine n_icmp_gt (tgt := 212) hC dL_isSound_162 (by decide) (by decide) (by decide) (fun c => absurd c (by decide)) (fun _ => ?_)
              refine lv_aload_n hx hb dL_isSound_165 rfl (lvG hl rfl) ?_
              refine lv_iload_n hx hb dL_isSound_166 rfl (lvG hl rfl) ?_
              refine k_callPI (k_goV (rest := []) hC hK (w_q_forwardArea l g x a n f cn rq_4 hQ (nI ca)) L_L_X4_forwardArea (⟨⟨Nat.le_of_ble_eq_true rfl, Nat.le_of_ble_eq_true rfl⟩, ⟨rfl, rfl⟩, ⟨Nat.le_of_ble_eq_true rfl, Nat.le_of_ble_eq_true rfl⟩⟩) (hX.recv hK) (hB_5) rfl hl.1 rfl (Nat.le_of_ble_eq_true rfl) dL_isSound_167) ?_
              rw [e_fwa hQ.2.1 hQ.1 hca]
              refine z_if_lt (tgt := 212) hC dL_isSound_170 (by decide) (fun zc170 => ?_) (fun zc170 => ?_)
              · first | exact absurd var_eq.symm zc138 | exact absurd rfl zc148 | exact absurd zc155 (by decide) | exact absurd zc170 (Int32.not_lt.mpr (pa_nn hrg).1) | exact absurd zc178 (Int32.not_lt.mpr (pa_nn hrg).2) | exact absurd zc209 zc183
              · refine lv_aload_n hx hb dL_isSound_173 rfl (lvG hl rfl) ?_
                refine lv_iload_n hx hb dL_isSound_174 rfl (lvG hl rfl) ?_
                refine k_callPI (k_goV (rest := []) hC hK (w_q_loopArea l g x a n f cn rq_4 hQ (nI ca)) L_L_X4_loopArea (⟨⟨Nat.le_of_ble_eq_true rfl, Nat.le_of_ble_eq_true rfl⟩, ⟨rfl, rfl⟩, ⟨Nat.le_of_ble_eq_true rfl, Nat.le_of_ble_eq_true rfl⟩⟩) (hX.recv hK) (hB_5) rfl hl.1 rfl (Nat.le_of_ble_eq_true rfl) dL_isSound_175) ?_
                rw [e_loa hQ.2.1 hQ.1 hca]
                refine z_if_lt (tgt := 212) hC dL_isSound_178 (by decide) (fun zc178 => ?_) (fun zc178 => ?_)
                · first | exact absurd var_eq.symm zc138 | exact absurd rfl zc148 | exact absurd zc155 (by decide) | exact absurd zc170 (Int32.not_lt.mpr (pa_nn hrg).1) | exact absurd zc178 (Int32.not_lt.mpr (pa_nn hrg).2) | exact absurd zc209 zc183
                · have jc_8 : ∀ (Hu_9 : Heap) (locsu_9 : List Loc) (hXu_9 : XW g x a M f n Hu_9) (hSu_9 : va_S (SC x) s.heap Hu_9 locsu_9) (ls : Array Slot) (hl : lv_has ls 14 [(6, .int (nI 0)), (5, .int (v_mo (s_pt f ca) 21)), (4, .int (s_ls (s_pt f ca) 21)), (3, .int (v_ar (s_pt f ca) 21)), (0, .ref (x 0)), (1, .int (nI ca)), (2, .int (yy))]), W p l e (rr 5 115) s m [.ref (x 0), .int (nI ca), .int (yy)].toArray below meth c Hu_9 locsu_9 0 0 (MQ below (qI (SC x) (fun r H1 => r = nI 1 ∧ XW g x a M f n H1)) [.ref (x 0), .int (nI ca), .int (yy)].toArray s 0 0 (SC x)) (F0 m 214 ls []) := by
                    intro Hu_9 locsu_9 hXu_9 hSu_9 ls hl
                    refine lv_aload_n hx hb dL_isSound_214 rfl (lvG hl rfl) ?_
                    refine lv_iload_n hx hb dL_isSound_215 rfl (lvG hl rfl) ?_
                    obtain ⟨rq_10, hB_11, hT_12, hbk_13⟩ := hXu_9.q hc hQ.1
                    refine k_callPI (k_goV (rest := []) hC hK (w_q_meanPressure l g x a n f cn rq_10 hQ (nI ca)) L_L_X4_meanPressure (⟨⟨Nat.le_of_ble_eq_true rfl, Nat.le_of_ble_eq_true rfl⟩, ⟨rfl, rfl⟩, ⟨Nat.le_of_ble_eq_true rfl, Nat.le_of_ble_eq_true rfl⟩⟩) (hXu_9.recv hK) (hB_11) rfl hl.1 rfl (Nat.le_of_ble_eq_true rfl) dL_isSound_216) ?_
                    rw [e_mpr hQ.2.1 hQ.1 hca, mpr_25 hrg]
                    refine lv_bipush (v := nI 25) hx hb dL_isSound_219 (by decide) ?_
                    refine lv_iload_n hx hb dL_isSound_221 rfl (lvG hl rfl) ?_
                    refine lv_imul hx hb dL_isSound_222 ?_
                    refine lv_icmp_ne (tgt := 282) hx hb dL_isSound_223 (by decide) (fun zc223 => ?_) (fun zc223 => ?_)
                    · first | exact absurd rfl zc223 | exact absurd zc238 (by omega) | exact absurd zc253 (by omega) | exact absurd (o4 zc268) zc279
                    · refine lv_aload_n hx hb dL_isSound_226 rfl (lvG hl rfl) ?_
                      refine lv_iload_n hx hb dL_isSound_227 rfl (lvG hl rfl) ?_
                      refine lv_iconst (v := nI 0) hx hb dL_isSound_228 (by decide) ?_
                      refine k_callMI0 (k_goV (rest := []) hC hK (w_q_event l g x a n f cn rq_10 hQ (nI ca) (nI 0)) L_L_X4_event (⟨⟨Nat.le_of_ble_eq_true rfl, Nat.le_of_ble_eq_true rfl⟩, ⟨rfl, rfl⟩, ⟨Nat.le_of_ble_eq_true rfl, Nat.le_of_ble_eq_true rfl⟩⟩) (hXu_9.recv hK) (⟨hB_11, hT_12⟩) rfl hl.1 rfl (Nat.le_of_ble_eq_true rfl) dL_isSound_229) hSu_9 ((fun _ c => c)) (fun r_ H_14 locs_15 hq_16 hz_ hk_18 hS_17 => ?_)
                      obtain ⟨e_19, hT_20⟩ := hq_16
                      rw [e_evn hQ.2.1 hQ.1 hca (by decide)] at e_19
                      subst e_19
                      have hX_21 := hbk_13 H_14 hk_18 hT_20
                      obtain ⟨rq_22, hB_23, hT_24, hbk_25⟩ := hX_21.q hc hQ.1
                      refine lv_aload_n hx hb dL_isSound_232 rfl (lvG hl rfl) ?_
                      refine lv_iload_n hx hb dL_isSound_233 rfl (lvG hl rfl) ?_
                      refine lv_iconst (v := nI 1) hx hb dL_isSound_234 (by decide) ?_
                      refine k_callMI0 (k_goV (rest := [.int (nI (s_ev f ca 0))]) hC hK (w_q_event l g x a n f cn rq_22 hQ (nI ca) (nI 1)) L_L_X4_event (⟨⟨Nat.le_of_ble_eq_true rfl, Nat.le_of_ble_eq_true rfl⟩, ⟨rfl, rfl⟩, ⟨Nat.le_of_ble_eq_true rfl, Nat.le_of_ble_eq_true rfl⟩⟩) (hX_21.recv hK) (⟨hB_23, hT_24⟩) rfl hl.1 rfl (Nat.le_of_ble_eq_true rfl) dL_isSound_235) hS_17 ((fun _ c => c)) (fun r_ H_26 locs_27 hq_28 hz_ hk_30 hS_29 => ?_)
                      obtain ⟨e_31, hT_32⟩ := hq_28
                      rw [e_evn hQ.2.1 hQ.1 hca (by decide)] at e_31
                      subst e_31
                      have hX_33 := hbk_25 H_26 hk_30 hT_32
                      obtain ⟨rq_34, hB_35, hT_36, hbk_37⟩ := hX_33.q hc hQ.1
                      refine n_icmp_gt (tgt := 282) hC dL_isSound_238 (by omega) (by omega) (by decide) (fun zc238 => ?_) (fun zc238 => ?_)
                      · first | exact absurd rfl zc223 | exact absurd zc238 (by omega) | exact absurd zc253 (by omega) | exact absurd (o4 zc268) zc279
                      · refine lv_aload_n hx hb dL_isSound_241 rfl (lvG hl rfl) ?_
                        refine lv_iload_n hx hb dL_isSound_242 rfl (lvG hl rfl) ?_
                        refine lv_iconst (v := nI 1) hx hb dL_isSound_243 (by decide) ?_
                        refine k_callMI0 (k_goV (rest := []) hC hK (w_q_event l g x a n f cn rq_34 hQ (nI ca) (nI 1)) L_L_X4_event (⟨⟨Nat.le_of_ble_eq_true rfl, Nat.le_of_ble_eq_true rfl⟩, ⟨rfl, rfl⟩, ⟨Nat.le_of_ble_eq_true rfl, Nat.le_of_ble_eq_true rfl⟩⟩) (hX_33.recv hK) (⟨hB_35, hT_36⟩) rfl hl.1 rfl (Nat.le_of_ble_eq_true rfl) dL_isSound_244) hS_29 ((fun _ c => c)) (fun r_ H_38 locs_39 hq_40 hz_ hk_42 hS_41 => ?_)
                        obtain ⟨e_43, hT_44⟩ := hq_40
                        rw [e_evn hQ.2.1 hQ.1 hca (by decide)] at e_43
                        subst e_43
                        have hX_45 := hbk_37 H_38 hk_42 hT_44
                        obtain ⟨rq_46, hB_47, hT_48, hbk_49⟩ := hX_45.q hc hQ.1
                        refine lv_aload_n hx hb dL_isSound_247 rfl (lvG hl rfl) ?_
                        refine lv_iload_n hx hb dL_isSound_248 rfl (lvG hl rfl) ?_
                        refine lv_iconst (v := nI 2) hx hb dL_isSound_249 (by decide) ?_
                        refine k_callMI0 (k_goV (rest := [.int (nI (s_ev f ca 1))]) hC hK (w_q_event l g x a n f cn rq_46 hQ (nI ca) (nI 2)) L_L_X4_event (⟨⟨Nat.le_of_ble_eq_true rfl, Nat.le_of_ble_eq_true rfl⟩, ⟨rfl, rfl⟩, ⟨Nat.le_of_ble_eq_true rfl, Nat.le_of_ble_eq_true rfl⟩⟩) (hX_45.recv hK) (⟨hB_47, hT_48⟩) rfl hl.1 rfl (Nat.le_of_ble_eq_true rfl) dL_isSound_250) hS_41 ((fun _ c => c)) (fun r_ H_50 locs_51 hq_52 hz_ hk_54 hS_53 => ?_)
                        obtain ⟨e_55, hT_56⟩ := hq_52
                        rw [e_evn hQ.2.1 hQ.1 hca (by decide)] at e_55
                        subst e_55
                        have hX_57 := hbk_49 H_50 hk_54 hT_56
                        obtain ⟨rq_58, hB_59, hT_60, hbk_61⟩ := hX_57.q hc hQ.1
                        refine n_icmp_gt (tgt := 282) hC dL_isSound_253 (by omega) (by omega) (by decide) (fun zc253 => ?_) (fun zc253 => ?_)
                        · first | exact absurd rfl zc223 | exact absurd zc238 (by omega) | exact absurd zc253 (by omega) | exact absurd (o4 zc268) zc279
                        · have jc_62 : ∀ (Hu_63 : Heap) (locsu_63 : List Loc) (hXu_63 : XW g x a M f n Hu_63) (hSu_63 : va_S (SC x) s.heap Hu_63 locsu_63) (ls : Array Slot) (hl : lv_has ls 14 [(6, .int (nI 0)), (5, .int (v_mo (s_pt f ca) 21)), (4, .int (s_ls (s_pt f ca) 21)), (3, .int (v_ar (s_pt f ca) 21)), (0, .ref (x 0)), (1, .int (nI ca)), (2, .int (yy))]), W p l e (rr 5 115) s m [.ref (x 0), .int (nI ca), .int (yy)].toArray below meth c Hu_63 locsu_63 0 0 (MQ below (qI (SC x) (fun r H1 => r = nI 1 ∧ XW g x a M f n H1)) [.ref (x 0), .int (nI ca), .int (yy)].toArray s 0 0 (SC x)) (F0 m 284 ls []) := by
                            intro Hu_63 locsu_63 hXu_63 hSu_63 ls hl
                            refine lv_aload_n hx hb dL_isSound_284 rfl (lvG hl rfl) ?_
                            refine lv_iload_n hx hb dL_isSound_285 rfl (lvG hl rfl) ?_
                            obtain ⟨rq_64, hB_65, hT_66, hbk_67⟩ := hXu_63.q hc hQ.1
                            refine k_callPI (k_goV (rest := []) hC hK (w_q_end l g x a n f cn rq_64 hQ (nI ca)) L_L_X4_end (⟨⟨Nat.le_of_ble_eq_true rfl, Nat.le_of_ble_eq_true rfl⟩, ⟨rfl, rfl⟩, ⟨Nat.le_of_ble_eq_true rfl, Nat.le_of_ble_eq_true rfl⟩⟩) (hXu_63.recv hK) (hB_65) rfl hl.1 rfl (Nat.le_of_ble_eq_true rfl) dL_isSound_286) ?_
                            rw [e_end hQ.2.1 hQ.1 hca, (hQ.E ca hca).1]
                            refine lv_istore (lv' := [(7, .int (nI (s_en f ca))), (6, .int (nI 0)), (5, .int (v_mo (s_pt f ca) 21)), (4, .int (s_ls (s_pt f ca) 21)), (3, .int (v_ar (s_pt f ca) 21)), (0, .ref (x 0)), (1, .int (nI ca)), (2, .int (yy))]) hx hb dL_isSound_289 hl (by decide) rfl (fun ls hl => ?_)
                            refine lv_aload_n hx hb dL_isSound_291 rfl (lvG hl rfl) ?_
                            refine lv_iload_n hx hb dL_isSound_292 rfl (lvG hl rfl) ?_
                            refine k_callMI0 (k_goV (rest := []) hC hK (w_q_slip l g x a n f cn rq_64 hQ (nI ca)) L_L_X4_slip (⟨⟨Nat.le_of_ble_eq_true rfl, Nat.le_of_ble_eq_true rfl⟩, ⟨rfl, rfl⟩, ⟨Nat.le_of_ble_eq_true rfl, Nat.le_of_ble_eq_true rfl⟩⟩) (hXu_63.recv hK) (⟨hB_65, hT_66⟩) rfl hl.1 rfl (Nat.le_of_ble_eq_true rfl) dL_isSound_293) hSu_63 ((fun _ c => c)) (fun r_ H_68 locs_69 hq_70 hz_ hk_72 hS_71 => ?_)
                            obtain ⟨e_73, hT_74⟩ := hq_70
                            rw [e_sli hQ.2.1 hQ.1 hca] at e_73
                            subst e_73
                            have hX_75 := hbk_67 H_68 hk_72 hT_74
                            obtain ⟨rq_76, hB_77, hT_78, hbk_79⟩ := hX_75.q hc hQ.1
                            refine lv_istore (lv' := [(8, .int (s_sl f ca 5)), (7, .int (nI (s_en f ca))), (6, .int (nI 0)), (5, .int (v_mo (s_pt f ca) 21)), (4, .int (s_ls (s_pt f ca) 21)), (3, .int (v_ar (s_pt f ca) 21)), (0, .ref (x 0)), (1, .int (nI ca)), (2, .int (yy))]) hx hb dL_isSound_296 hl (by decide) rfl (fun ls hl => ?_)
                            obtain ⟨jd, hjd, ejd⟩ := low_in yy (k := 11) (by decide) (by decide)
                            refine lv_iload_n hx hb dL_isSound_298 rfl (lvG hl rfl) ?_
                            refine lv_bipush (v := nI 11) hx hb dL_isSound_299 (by decide) ?_
                            refine k_callPI (k_goS (rest := []) hC hK (c_L_low l g yy (nI 11) (by decide)) L_L_L_low (⟨⟨Nat.le_of_ble_eq_true rfl, Nat.le_of_ble_eq_true rfl⟩, ⟨rfl, rfl⟩, ⟨Nat.le_of_ble_eq_true rfl, Nat.le_of_ble_eq_true rfl⟩⟩) (trivial) rfl hl.1 rfl (Nat.le_of_ble_eq_true rfl) dL_isSound_301) ?_
                            rw [ejd]
                            refine lv_iconst (v := nI 5) hx hb dL_isSound_304 (by decide) ?_
                            refine lv_isub hx hb dL_isSound_305 ?_
                            refine lv_topi (fun dd edd => ?_)
                            refine lv_istore (lv' := [(9, .int (dd)), (8, .int (s_sl f ca 5)), (7, .int (nI (s_en f ca))), (6, .int (nI 0)), (5, .int (v_mo (s_pt f ca) 21)), (4, .int (s_ls (s_pt f ca) 21)), (3, .int (v_ar (s_pt f ca) 21)), (0, .ref (x 0)), (1, .int (nI ca)), (2, .int (yy))]) hx hb dL_isSound_306 hl (by decide) rfl (fun ls hl => ?_)
                            have hdd : -5 ≤ dd.toInt ∧ dd.toInt ≤ 5 := by rw [edd]; exact d_in hjd
                            refine lv_iconst (v := nI 0) hx hb dL_isSound_308 (by decide) ?_
                            refine lv_istore (lv' := [(10, .int (nI 0)), (9, .int (dd)), (8, .int (s_sl f ca 5)), (7, .int (nI (s_en f ca))), (6, .int (nI 0)), (5, .int (v_mo (s_pt f ca) 21)), (4, .int (s_ls (s_pt f ca) 21)), (3, .int (v_ar (s_pt f ca) 21)), (0, .ref (x 0)), (1, .int (nI ca)), (2, .int (yy))]) hx hb dL_isSound_309 hl (by decide) rfl (fun ls hl => ?_)
                            refine lv_iconst (v := nI 0) hx hb dL_isSound_311 (by decide) ?_
                            refine lv_istore (lv' := [(11, .int (nI 0)), (10, .int (nI 0)), (9, .int (dd)), (8, .int (s_sl f ca 5)), (7, .int (nI (s_en f ca))), (6, .int (nI 0)), (5, .int (v_mo (s_pt f ca) 21)), (4, .int (s_ls (s_pt f ca) 21)), (3, .int (v_ar (s_pt f ca) 21)), (0, .ref (x 0)), (1, .int (nI ca)), (2, .int (yy))]) hx hb dL_isSound_312 hl (by decide) rfl (fun ls hl => ?_)
                            refine lv_iconst (v := nI 0) hx hb dL_isSound_314 (by decide) ?_
                            refine lv_istore (lv' := [(12, .int (nI 0)), (11, .int (nI 0)), (10, .int (nI 0)), (9, .int (dd)), (8, .int (s_sl f ca 5)), (7, .int (nI (s_en f ca))), (6, .int (nI 0)), (5, .int (v_mo (s_pt f ca) 21)), (4, .int (s_ls (s_pt f ca) 21)), (3, .int (v_ar (s_pt f ca) 21)), (0, .ref (x 0)), (1, .int (nI ca)), (2, .int (yy))]) hx hb dL_isSound_315 hl (by decide) rfl (fun ls hl => ?_)
                            have key_80 : ∀ (k_81 : Nat) (zk : Nat) (H7 : Heap) (locs7 : List Loc) (hX7 : XW g x a M f n H7) (hS7 : va_S (SC x) s.heap H7 locs7) (hzk : zk ≤ 4) (hk_k_81 : 4 - zk < k_81) (ls : Array Slot) (hl : lv_has ls 14 [(12, .int (nI zk)), (11, .int (v_dv f ca dd zk)), (10, .int (v_dv f ca (s_sl f ca 5) zk)), (9, .int (dd)), (8, .int (s_sl f ca 5)), (7, .int (nI (s_en f ca))), (6, .int (nI 0)), (5, .int (v_mo (s_pt f ca) 21)), (4, .int (s_ls (s_pt f ca) 21)), (3, .int (v_ar (s_pt f ca) 21)), (0, .ref (x 0)), (1, .int (nI ca)), (2, .int (yy))]), W p l e (rr 5 115) s m [.ref (x 0), .int (nI ca), .int (yy)].toArray below meth c H7 locs7 0 0 (MQ below (qI (SC x) (fun r H1 => r = nI 1 ∧ XW g x a M f n H1)) [.ref (x 0), .int (nI ca), .int (yy)].toArray s 0 0 (SC x)) (F0 m 317 ls ([])) := by
                              intro k_81
                              induction k_81 with
                              | zero => intro zk H7 locs7 hX7 hS7 hzk hk_k_81 ls hl; exact absurd hk_k_81 (Nat.not_lt_zero _)
                              | succ k_81 ih_82 =>
                                intro zk H7 locs7 hX7 hS7 hzk hk_k_81 ls hl
                                refine lv_iload hx hb dL_isSound_317 (lvG hl rfl) ?_
                                refine lv_iconst (v := nI 4) hx hb dL_isSound_319 (by decide) ?_
                                refine n_icmp_ge (tgt := 434) hC dL_isSound_320 (by omega) (by omega) (by decide) (fun zc320 => ?_) (fun zc320 => ?_)
                                · have hl : lv_has ls 14 [(12, .int (nI zk)), (11, .int (v_dv f ca dd 4)), (10, .int (v_dv f ca (s_sl f ca 5) 4)), (9, .int (dd)), (8, .int (s_sl f ca 5)), (7, .int (nI (s_en f ca))), (6, .int (nI 0)), (5, .int (v_mo (s_pt f ca) 21)), (4, .int (s_ls (s_pt f ca) 21)), (3, .int (v_ar (s_pt f ca) 21)), (0, .ref (x 0)), (1, .int (nI ca)), (2, .int (yy))] := lv_eq hl (by rw [show zk = 4 by omega])
                                  refine lv_iload hx hb dL_isSound_434 (lvG hl rfl) ?_
                                  refine lv_bipush (v := (-6 : Int32)) hx hb dL_isSound_436 (by decide) ?_
                                  refine lv_icmp_le (tgt := 476) hx hb dL_isSound_438 (by decide) (fun zc438 => ?_) (fun zc438 => ?_)
                                  · first | exact absurd zc469 (Int32.not_lt.mpr (mo_ge 21 _ (by omega))) | exact absurd zc452 (Int32.not_lt.mpr (sl_best hQ hca hdd)) | exact absurd (Int32.le_iff_toInt_le.mp zc445) (by have := (sl_in (f := f) (j := ca)).2; have e6 : (nI 6).toInt = 6 := rfl; omega) | exact absurd (Int32.le_iff_toInt_le.mp zc438) (by have := (sl_in (f := f) (j := ca)).1; have e6 : ((-6 : Int32)).toInt = -6 := rfl; omega)
                                  · refine lv_iload hx hb dL_isSound_441 (lvG hl rfl) ?_
                                    refine lv_bipush (v := nI 6) hx hb dL_isSound_443 (by decide) ?_
                                    refine lv_icmp_ge (tgt := 476) hx hb dL_isSound_445 (by decide) (fun zc445 => ?_) (fun zc445 => ?_)
                                    · first | exact absurd zc469 (Int32.not_lt.mpr (mo_ge 21 _ (by omega))) | exact absurd zc452 (Int32.not_lt.mpr (sl_best hQ hca hdd)) | exact absurd (Int32.le_iff_toInt_le.mp zc445) (by have := (sl_in (f := f) (j := ca)).2; have e6 : (nI 6).toInt = 6 := rfl; omega) | exact absurd (Int32.le_iff_toInt_le.mp zc438) (by have := (sl_in (f := f) (j := ca)).1; have e6 : ((-6 : Int32)).toInt = -6 := rfl; omega)
                                    · refine lv_iload hx hb dL_isSound_448 (lvG hl rfl) ?_
                                      refine lv_iload hx hb dL_isSound_450 (lvG hl rfl) ?_
                                      refine lv_icmp_gt (tgt := 476) hx hb dL_isSound_452 (by decide) (fun zc452 => ?_) (fun zc452 => ?_)
                                      · first | exact absurd zc469 (Int32.not_lt.mpr (mo_ge 21 _ (by omega))) | exact absurd zc452 (Int32.not_lt.mpr (sl_best hQ hca hdd)) | exact absurd (Int32.le_iff_toInt_le.mp zc445) (by have := (sl_in (f := f) (j := ca)).2; have e6 : (nI 6).toInt = 6 := rfl; omega) | exact absurd (Int32.le_iff_toInt_le.mp zc438) (by have := (sl_in (f := f) (j := ca)).1; have e6 : ((-6 : Int32)).toInt = -6 := rfl; omega)
                                      · refine lv_aload_n hx hb dL_isSound_455 rfl (lvG hl rfl) ?_
                                        refine lv_iload_n hx hb dL_isSound_456 rfl (lvG hl rfl) ?_
                                        refine lv_iconst (v := nI 0) hx hb dL_isSound_457 (by decide) ?_
                                        refine lv_aload_n hx hb dL_isSound_458 rfl (lvG hl rfl) ?_
                                        refine lv_iload_n hx hb dL_isSound_459 rfl (lvG hl rfl) ?_
                                        refine lv_iconst (v := nI 0) hx hb dL_isSound_460 (by decide) ?_
                                        obtain ⟨rq_83, hB_84, hT_85, hbk_86⟩ := hX7.q hc hQ.1
                                        refine k_callMI0 (k_goV (rest := [.int (nI 0), .int (nI ca), .ref (x 0)]) hC hK (w_q_event l g x a n f cn rq_83 hQ (nI ca) (nI 0)) L_L_X4_event (⟨⟨Nat.le_of_ble_eq_true rfl, Nat.le_of_ble_eq_true rfl⟩, ⟨rfl, rfl⟩, ⟨Nat.le_of_ble_eq_true rfl, Nat.le_of_ble_eq_true rfl⟩⟩) (hX7.recv hK) (⟨hB_84, hT_85⟩) rfl hl.1 rfl (Nat.le_of_ble_eq_true rfl) dL_isSound_461) hS7 ((fun _ c => c)) (fun r_ H_87 locs_88 hq_89 hz_ hk_91 hS_90 => ?_)
                                        obtain ⟨e_92, hT_93⟩ := hq_89
                                        rw [e_evn hQ.2.1 hQ.1 hca (by decide)] at e_92
                                        subst e_92
                                        have hX_94 := hbk_86 H_87 hk_91 hT_93
                                        obtain ⟨rq_95, hB_96, hT_97, hbk_98⟩ := hX_94.q hc hQ.1
                                        refine k_callPI (k_goV (rest := []) hC hK (w_q_pressure l g x a n f cn rq_95 hQ (nI ca) (nI 0) (nI (s_ev f ca 0))) L_L_X4_pressure (⟨⟨Nat.le_of_ble_eq_true rfl, Nat.le_of_ble_eq_true rfl⟩, ⟨rfl, rfl⟩, ⟨Nat.le_of_ble_eq_true rfl, Nat.le_of_ble_eq_true rfl⟩⟩) (hX_94.recv hK) (hB_96) rfl hl.1 rfl (Nat.le_of_ble_eq_true rfl) dL_isSound_464) ?_
                                        rw [e_p0 hQ.2.1 hQ.1 hca (by omega)]
                                        refine lv_iload hx hb dL_isSound_467 (lvG hl rfl) ?_
                                        refine lv_icmp_gt (tgt := 476) hx hb dL_isSound_469 (by decide) (fun zc469 => ?_) (fun zc469 => ?_)
                                        · first | exact absurd zc469 (Int32.not_lt.mpr (mo_ge 21 _ (by omega))) | exact absurd zc452 (Int32.not_lt.mpr (sl_best hQ hca hdd)) | exact absurd (Int32.le_iff_toInt_le.mp zc445) (by have := (sl_in (f := f) (j := ca)).2; have e6 : (nI 6).toInt = 6 := rfl; omega) | exact absurd (Int32.le_iff_toInt_le.mp zc438) (by have := (sl_in (f := f) (j := ca)).1; have e6 : ((-6 : Int32)).toInt = -6 := rfl; omega)
                                        · refine lv_iconst (v := nI 1) hx hb dL_isSound_472 (by decide) ?_
                                          refine lv_goto (tgt := 477) hx hb dL_isSound_473 (by decide) ?_
                                          exact k_zretM hC hr hlk hS_90 dL_isSound_477 k_nar1 (⟨rfl, hX_94⟩)
                                · refine lv_aload_n hx hb dL_isSound_323 rfl (lvG hl rfl) ?_
                                  refine lv_iload_n hx hb dL_isSound_324 rfl (lvG hl rfl) ?_
                                  refine lv_iload hx hb dL_isSound_325 (lvG hl rfl) ?_
                                  obtain ⟨rq_99, hB_100, hT_101, hbk_102⟩ := hX7.q hc hQ.1
                                  refine k_callMI0 (k_goV (rest := []) hC hK (w_q_lateness l g x a n f cn rq_99 hQ (nI ca) (nI zk)) L_L_X4_lateness (⟨⟨Nat.le_of_ble_eq_true rfl, Nat.le_of_ble_eq_true rfl⟩, ⟨rfl, rfl⟩, ⟨Nat.le_of_ble_eq_true rfl, Nat.le_of_ble_eq_true rfl⟩⟩) (hX7.recv hK) (⟨hB_100, hT_101⟩) rfl hl.1 rfl (Nat.le_of_ble_eq_true rfl) dL_isSound_327) hS7 ((fun _ c => c)) (fun r_ H_103 locs_104 hq_105 hz_ hk_107 hS_106 => ?_)
                                  obtain ⟨e_108, hT_109⟩ := hq_105
                                  rw [e_lat hQ.2.1 hQ.1 hca (by omega)] at e_108
                                  subst e_108
                                  have hX_110 := hbk_102 H_103 hk_107 hT_109
                                  obtain ⟨rq_111, hB_112, hT_113, hbk_114⟩ := hX_110.q hc hQ.1
                                  refine lv_istore (lv' := [(13, .int (s_la f ca zk)), (12, .int (nI zk)), (11, .int (v_dv f ca dd zk)), (10, .int (v_dv f ca (s_sl f ca 5) zk)), (9, .int (dd)), (8, .int (s_sl f ca 5)), (7, .int (nI (s_en f ca))), (6, .int (nI 0)), (5, .int (v_mo (s_pt f ca) 21)), (4, .int (s_ls (s_pt f ca) 21)), (3, .int (v_ar (s_pt f ca) 21)), (0, .ref (x 0)), (1, .int (nI ca)), (2, .int (yy))]) hx hb dL_isSound_330 hl (by decide) rfl (fun ls hl => ?_)
                                  have jc_115 : ∀ (Hu_116 : Heap) (locsu_116 : List Loc) (hXu_116 : XW g x a M f n Hu_116) (hSu_116 : va_S (SC x) s.heap Hu_116 locsu_116) (ls : Array Slot) (hl : lv_has ls 14 [(13, .int (s_la f ca zk)), (12, .int (nI zk)), (11, .int (v_dv f ca dd zk)), (10, .int (v_dv f ca (s_sl f ca 5) zk)), (9, .int (dd)), (8, .int (s_sl f ca 5)), (7, .int (nI (s_en f ca))), (6, .int (nI 0)), (5, .int (v_mo (s_pt f ca) 21)), (4, .int (s_ls (s_pt f ca) 21)), (3, .int (v_ar (s_pt f ca) 21)), (0, .ref (x 0)), (1, .int (nI ca)), (2, .int (yy))]), W p l e (rr 5 115) s m [.ref (x 0), .int (nI ca), .int (yy)].toArray below meth c Hu_116 locsu_116 0 0 (MQ below (qI (SC x) (fun r H1 => r = nI 1 ∧ XW g x a M f n H1)) [.ref (x 0), .int (nI ca), .int (yy)].toArray s 0 0 (SC x)) (F0 m 378 ls []) := by
                                    intro Hu_116 locsu_116 hXu_116 hSu_116 ls hl
                                    refine lv_iload hx hb dL_isSound_378 (lvG hl rfl) ?_
                                    refine lv_iload hx hb dL_isSound_380 (lvG hl rfl) ?_
                                    refine lv_iload hx hb dL_isSound_382 (lvG hl rfl) ?_
                                    have jn_400 : ∀ (v_400 : Int32) (hv_400 : v_400 = if s_la f ca zk < s_sl f ca 5 then s_sl f ca 5 - s_la f ca zk else s_la f ca zk - s_sl f ca 5) (ls : Array Slot) (hl : lv_has ls 14 [(13, .int (s_la f ca zk)), (12, .int (nI zk)), (11, .int (v_dv f ca dd zk)), (10, .int (v_dv f ca (s_sl f ca 5) zk)), (9, .int (dd)), (8, .int (s_sl f ca 5)), (7, .int (nI (s_en f ca))), (6, .int (nI 0)), (5, .int (v_mo (s_pt f ca) 21)), (4, .int (s_ls (s_pt f ca) 21)), (3, .int (v_ar (s_pt f ca) 21)), (0, .ref (x 0)), (1, .int (nI ca)), (2, .int (yy))]), W p l e (rr 5 115) s m [.ref (x 0), .int (nI ca), .int (yy)].toArray below meth c Hu_116 locsu_116 0 0 (MQ below (qI (SC x) (fun r H1 => r = nI 1 ∧ XW g x a M f n H1)) [.ref (x 0), .int (nI ca), .int (yy)].toArray s 0 0 (SC x)) (F0 m 400 ls (.int (v_400) :: .int (v_dv f ca (s_sl f ca 5) zk) :: [])) := by
                                      intro v_400 hv_400 ls hl
                                      refine lv_iadd hx hb dL_isSound_400 ?_
                                      refine lv_istore (lv' := [(10, .int ((v_dv f ca (s_sl f ca 5) zk) + v_400)), (13, .int (s_la f ca zk)), (12, .int (nI zk)), (11, .int (v_dv f ca dd zk)), (9, .int (dd)), (8, .int (s_sl f ca 5)), (7, .int (nI (s_en f ca))), (6, .int (nI 0)), (5, .int (v_mo (s_pt f ca) 21)), (4, .int (s_ls (s_pt f ca) 21)), (3, .int (v_ar (s_pt f ca) 21)), (0, .ref (x 0)), (1, .int (nI ca)), (2, .int (yy))]) hx hb dL_isSound_401 hl (by decide) rfl (fun ls hl => ?_)
                                      have hl : lv_has ls 14 [(10, .int (v_dv f ca (s_sl f ca 5) (zk + 1))), (13, .int (s_la f ca zk)), (12, .int (nI zk)), (11, .int (v_dv f ca dd zk)), (9, .int (dd)), (8, .int (s_sl f ca 5)), (7, .int (nI (s_en f ca))), (6, .int (nI 0)), (5, .int (v_mo (s_pt f ca) 21)), (4, .int (s_ls (s_pt f ca) 21)), (3, .int (v_ar (s_pt f ca) 21)), (0, .ref (x 0)), (1, .int (nI ca)), (2, .int (yy))] := lv_eq hl (by rw [hv_400, ← dv_s])
                                      refine lv_iload hx hb dL_isSound_403 (lvG hl rfl) ?_
                                      refine lv_iload hx hb dL_isSound_405 (lvG hl rfl) ?_
                                      refine lv_iload hx hb dL_isSound_407 (lvG hl rfl) ?_
                                      have jn_425 : ∀ (v_425 : Int32) (hv_425 : v_425 = if s_la f ca zk < dd then dd - s_la f ca zk else s_la f ca zk - dd) (ls : Array Slot) (hl : lv_has ls 14 [(10, .int (v_dv f ca (s_sl f ca 5) (zk + 1))), (13, .int (s_la f ca zk)), (12, .int (nI zk)), (11, .int (v_dv f ca dd zk)), (9, .int (dd)), (8, .int (s_sl f ca 5)), (7, .int (nI (s_en f ca))), (6, .int (nI 0)), (5, .int (v_mo (s_pt f ca) 21)), (4, .int (s_ls (s_pt f ca) 21)), (3, .int (v_ar (s_pt f ca) 21)), (0, .ref (x 0)), (1, .int (nI ca)), (2, .int (yy))]), W p l e (rr 5 115) s m [.ref (x 0), .int (nI ca), .int (yy)].toArray below meth c Hu_116 locsu_116 0 0 (MQ below (qI (SC x) (fun r H1 => r = nI 1 ∧ XW g x a M f n H1)) [.ref (x 0), .int (nI ca), .int (yy)].toArray s 0 0 (SC x)) (F0 m 425 ls (.int (v_425) :: .int (v_dv f ca dd zk) :: [])) := by
                                        intro v_425 hv_425 ls hl
                                        refine lv_iadd hx hb dL_isSound_425 ?_
                                        refine lv_istore (lv' := [(11, .int ((v_dv f ca dd zk) + v_425)), (10, .int (v_dv f ca (s_sl f ca 5) (zk + 1))), (13, .int (s_la f ca zk)), (12, .int (nI zk)), (9, .int (dd)), (8, .int (s_sl f ca 5)), (7, .int (nI (s_en f ca))), (6, .int (nI 0)), (5, .int (v_mo (s_pt f ca) 21)), (4, .int (s_ls (s_pt f ca) 21)), (3, .int (v_ar (s_pt f ca) 21)), (0, .ref (x 0)), (1, .int (nI ca)), (2, .int (yy))]) hx hb dL_isSound_426 hl (by decide) rfl (fun ls hl => ?_)
                                        have hl : lv_has ls 14 [(11, .int (v_dv f ca dd (zk + 1))), (10, .int (v_dv f ca (s_sl f ca 5) (zk + 1))), (13, .int (s_la f ca zk)), (12, .int (nI zk)), (9, .int (dd)), (8, .int (s_sl f ca 5)), (7, .int (nI (s_en f ca))), (6, .int (nI 0)), (5, .int (v_mo (s_pt f ca) 21)), (4, .int (s_ls (s_pt f ca) 21)), (3, .int (v_ar (s_pt f ca) 21)), (0, .ref (x 0)), (1, .int (nI ca)), (2, .int (yy))] := lv_eq hl (by rw [hv_425, ← dv_s])
                                        refine n_iinc (lv' := [(12, .int (nI (zk + 1))), (11, .int (v_dv f ca dd (zk + 1))), (10, .int (v_dv f ca (s_sl f ca 5) (zk + 1))), (13, .int (s_la f ca zk)), (9, .int (dd)), (8, .int (s_sl f ca 5)), (7, .int (nI (s_en f ca))), (6, .int (nI 0)), (5, .int (v_mo (s_pt f ca) 21)), (4, .int (s_ls (s_pt f ca) 21)), (3, .int (v_ar (s_pt f ca) 21)), (0, .ref (x 0)), (1, .int (nI ca)), (2, .int (yy))]) hC dL_isSound_428 hl rfl (by decide) rfl (fun ls hl => ?_)
                                        refine lv_goto (tgt := 317) hx hb dL_isSound_431 (by decide) ?_
                                        exact ih_82 (zk + 1) _ _ hXu_116 hSu_116 (by first | omega | assumption | rfl) (by omega) ls (lv_sub hl [0, 1, 2, 4, 5, 6, 7, 8, 9, 10, 11, 12, 13] rfl)
                                      refine lv_icmp_ge (tgt := 420) hx hb dL_isSound_409 (by decide) (fun zc409 => ?_) (fun zc409 => ?_)
                                      · refine lv_iload hx hb dL_isSound_420 (lvG hl rfl) ?_
                                        refine lv_iload hx hb dL_isSound_422 (lvG hl rfl) ?_
                                        refine lv_isub hx hb dL_isSound_424 ?_
                                        exact jn_425 ((s_la f ca zk) - dd) (by first | exact (if_neg (Int32.not_lt.mpr zc409)).symm | exact (if_pos (Int32.not_le.mp zc409)).symm) ls hl
                                      · refine lv_iload hx hb dL_isSound_412 (lvG hl rfl) ?_
                                        refine lv_iload hx hb dL_isSound_414 (lvG hl rfl) ?_
                                        refine lv_isub hx hb dL_isSound_416 ?_
                                        refine lv_goto (tgt := 425) hx hb dL_isSound_417 (by decide) ?_
                                        exact jn_425 (dd - (s_la f ca zk)) (by first | exact (if_neg (Int32.not_lt.mpr zc409)).symm | exact (if_pos (Int32.not_le.mp zc409)).symm) ls hl
                                    refine lv_icmp_ge (tgt := 395) hx hb dL_isSound_384 (by decide) (fun zc384 => ?_) (fun zc384 => ?_)
                                    · refine lv_iload hx hb dL_isSound_395 (lvG hl rfl) ?_
                                      refine lv_iload hx hb dL_isSound_397 (lvG hl rfl) ?_
                                      refine lv_isub hx hb dL_isSound_399 ?_
                                      exact jn_400 ((s_la f ca zk) - (s_sl f ca 5)) (by first | exact (if_neg (Int32.not_lt.mpr zc384)).symm | exact (if_pos (Int32.not_le.mp zc384)).symm) ls hl
                                    · refine lv_iload hx hb dL_isSound_387 (lvG hl rfl) ?_
                                      refine lv_iload hx hb dL_isSound_389 (lvG hl rfl) ?_
                                      refine lv_isub hx hb dL_isSound_391 ?_
                                      refine lv_goto (tgt := 400) hx hb dL_isSound_392 (by decide) ?_
                                      exact jn_400 ((s_sl f ca 5) - (s_la f ca zk)) (by first | exact (if_neg (Int32.not_lt.mpr zc384)).symm | exact (if_pos (Int32.not_le.mp zc384)).symm) ls hl
                                  refine lv_iload hx hb dL_isSound_332 (lvG hl rfl) ?_
                                  refine lv_iload hx hb dL_isSound_334 (lvG hl rfl) ?_
                                  refine lv_iconst (v := nI 3) hx hb dL_isSound_336 (by decide) ?_
                                  refine n_icmp_ne (tgt := 357) hC dL_isSound_337 (by omega) (by omega) (by decide) (fun zc337 => ?_) (fun zc337 => ?_)
                                  · refine lv_aload_n hx hb dL_isSound_357 rfl (lvG hl rfl) ?_
                                    refine lv_iload_n hx hb dL_isSound_358 rfl (lvG hl rfl) ?_
                                    refine lv_iload hx hb dL_isSound_359 (lvG hl rfl) ?_
                                    refine k_callMI0 (k_goV (rest := [.int (s_la f ca zk)]) hC hK (w_q_event l g x a n f cn rq_111 hQ (nI ca) (nI zk)) L_L_X4_event (⟨⟨Nat.le_of_ble_eq_true rfl, Nat.le_of_ble_eq_true rfl⟩, ⟨rfl, rfl⟩, ⟨Nat.le_of_ble_eq_true rfl, Nat.le_of_ble_eq_true rfl⟩⟩) (hX_110.recv hK) (⟨hB_112, hT_113⟩) rfl hl.1 rfl (Nat.le_of_ble_eq_true rfl) dL_isSound_361) hS_106 ((fun _ c => c)) (fun r_ H_117 locs_118 hq_119 hz_ hk_121 hS_120 => ?_)
                                    obtain ⟨e_122, hT_123⟩ := hq_119
                                    rw [e_evn hQ.2.1 hQ.1 hca (by omega)] at e_122
                                    subst e_122
                                    have hX_124 := hbk_114 H_117 hk_121 hT_123
                                    obtain ⟨rq_125, hB_126, hT_127, hbk_128⟩ := hX_124.q hc hQ.1
                                    refine lv_aload_n hx hb dL_isSound_364 rfl (lvG hl rfl) ?_
                                    refine lv_iload hx hb dL_isSound_365 (lvG hl rfl) ?_
                                    refine lv_iload hx hb dL_isSound_367 (lvG hl rfl) ?_
                                    refine k_callPI (k_goV (rest := [.int (nI (s_ev f ca zk)), .int (s_la f ca zk)]) hC hK (w_q_valve l g x a n f cn rq_125 hQ (nI (s_en f ca)) (nI zk)) L_L_X4_valve (⟨⟨Nat.le_of_ble_eq_true rfl, Nat.le_of_ble_eq_true rfl⟩, ⟨rfl, rfl⟩, ⟨Nat.le_of_ble_eq_true rfl, Nat.le_of_ble_eq_true rfl⟩⟩) (hX_124.recv hK) (hB_126) rfl hl.1 rfl (Nat.le_of_ble_eq_true rfl) dL_isSound_369) ?_
                                    rw [e_val hen (by omega)]
                                    refine lv_isub hx hb dL_isSound_372 ?_
                                    refine lv_icmp_eq (tgt := 378) hx hb dL_isSound_373 (by decide) (fun zc373 => ?_) (fun zc373 => ?_)
                                    · exact jc_115 _ _ hX_124 hS_120 ls (lv_sub hl [0, 1, 2, 3, 4, 5, 6, 7, 8, 9, 10, 11, 12, 13] rfl)
                                    · first | exact absurd (by rw [zc337]; exact la_3) zc373 | exact absurd (la_n zc337) zc373
                                  · refine lv_aload_n hx hb dL_isSound_340 rfl (lvG hl rfl) ?_
                                    refine lv_iload hx hb dL_isSound_341 (lvG hl rfl) ?_
                                    refine lv_iconst (v := nI 3) hx hb dL_isSound_343 (by decide) ?_
                                    refine k_callPI (k_goV (rest := [.int (s_la f ca zk)]) hC hK (w_q_valve l g x a n f cn rq_111 hQ (nI (s_en f ca)) (nI 3)) L_L_X4_valve (⟨⟨Nat.le_of_ble_eq_true rfl, Nat.le_of_ble_eq_true rfl⟩, ⟨rfl, rfl⟩, ⟨Nat.le_of_ble_eq_true rfl, Nat.le_of_ble_eq_true rfl⟩⟩) (hX_110.recv hK) (hB_112) rfl hl.1 rfl (Nat.le_of_ble_eq_true rfl) dL_isSound_344) ?_
                                    rw [e_val hen (by decide)]
                                    refine lv_aload_n hx hb dL_isSound_347 rfl (lvG hl rfl) ?_
                                    refine lv_iload_n hx hb dL_isSound_348 rfl (lvG hl rfl) ?_
                                    refine lv_iconst (v := nI 3) hx hb dL_isSound_349 (by decide) ?_
                                    refine k_callMI0 (k_goV (rest := [.int (f (8 + 4 * s_en f ca + 3)), .int (s_la f ca zk)]) hC hK (w_q_event l g x a n f cn rq_111 hQ (nI ca) (nI 3)) L_L_X4_event (⟨⟨Nat.le_of_ble_eq_true rfl, Nat.le_of_ble_eq_true rfl⟩, ⟨rfl, rfl⟩, ⟨Nat.le_of_ble_eq_true rfl, Nat.le_of_ble_eq_true rfl⟩⟩) (hX_110.recv hK) (⟨hB_112, hT_113⟩) rfl hl.1 rfl (Nat.le_of_ble_eq_true rfl) dL_isSound_350) hS_106 ((fun _ c => c)) (fun r_ H_129 locs_130 hq_131 hz_ hk_133 hS_132 => ?_)
                                    obtain ⟨e_134, hT_135⟩ := hq_131
                                    rw [e_evn hQ.2.1 hQ.1 hca (by decide)] at e_134
                                    subst e_134
                                    have hX_136 := hbk_114 H_129 hk_133 hT_135
                                    obtain ⟨rq_137, hB_138, hT_139, hbk_140⟩ := hX_136.q hc hQ.1
                                    refine lv_isub hx hb dL_isSound_353 ?_
                                    refine lv_goto (tgt := 373) hx hb dL_isSound_354 (by decide) ?_
                                    refine lv_icmp_eq (tgt := 378) hx hb dL_isSound_373 (by decide) (fun zc373 => ?_) (fun zc373 => ?_)
                                    · exact jc_115 _ _ hX_136 hS_132 ls (lv_sub hl [0, 1, 2, 3, 4, 5, 6, 7, 8, 9, 10, 11, 12, 13] rfl)
                                    · first | exact absurd (by rw [zc337]; exact la_3) zc373 | exact absurd (la_n zc337) zc373
                            exact key_80 ((4 - 0) + 1) 0 _ _ hX_75 hS_71 (by first | rfl | omega | assumption) (Nat.lt_succ_self _) ls (lv_sub hl [0, 1, 2, 3, 4, 5, 6, 7, 8, 9, 10, 11, 12] rfl)
                          refine lv_aload_n hx hb dL_isSound_256 rfl (lvG hl rfl) ?_
                          refine lv_iload_n hx hb dL_isSound_257 rfl (lvG hl rfl) ?_
                          refine lv_iconst (v := nI 1) hx hb dL_isSound_258 (by decide) ?_
                          refine k_callMI0 (k_goV (rest := []) hC hK (w_q_event l g x a n f cn rq_58 hQ (nI ca) (nI 1)) L_L_X4_event (⟨⟨Nat.le_of_ble_eq_true rfl, Nat.le_of_ble_eq_true rfl⟩, ⟨rfl, rfl⟩, ⟨Nat.le_of_ble_eq_true rfl, Nat.le_of_ble_eq_true rfl⟩⟩) (hX_57.recv hK) (⟨hB_59, hT_60⟩) rfl hl.1 rfl (Nat.le_of_ble_eq_true rfl) dL_isSound_259) hS_53 ((fun _ c => c)) (fun r_ H_141 locs_142 hq_143 hz_ hk_145 hS_144 => ?_)
                          obtain ⟨e_146, hT_147⟩ := hq_143
                          rw [e_evn hQ.2.1 hQ.1 hca (by decide)] at e_146
                          subst e_146
                          have hX_148 := hbk_61 H_141 hk_145 hT_147
                          obtain ⟨rq_149, hB_150, hT_151, hbk_152⟩ := hX_148.q hc hQ.1
                          refine lv_aload_n hx hb dL_isSound_262 rfl (lvG hl rfl) ?_
                          refine lv_iload_n hx hb dL_isSound_263 rfl (lvG hl rfl) ?_
                          refine lv_iconst (v := nI 2) hx hb dL_isSound_264 (by decide) ?_
                          refine k_callMI0 (k_goV (rest := [.int (nI (s_ev f ca 1))]) hC hK (w_q_event l g x a n f cn rq_149 hQ (nI ca) (nI 2)) L_L_X4_event (⟨⟨Nat.le_of_ble_eq_true rfl, Nat.le_of_ble_eq_true rfl⟩, ⟨rfl, rfl⟩, ⟨Nat.le_of_ble_eq_true rfl, Nat.le_of_ble_eq_true rfl⟩⟩) (hX_148.recv hK) (⟨hB_150, hT_151⟩) rfl hl.1 rfl (Nat.le_of_ble_eq_true rfl) dL_isSound_265) hS_144 ((fun _ c => c)) (fun r_ H_153 locs_154 hq_155 hz_ hk_157 hS_156 => ?_)
                          obtain ⟨e_158, hT_159⟩ := hq_155
                          rw [e_evn hQ.2.1 hQ.1 hca (by decide)] at e_158
                          subst e_158
                          have hX_160 := hbk_152 H_153 hk_157 hT_159
                          obtain ⟨rq_161, hB_162, hT_163, hbk_164⟩ := hX_160.q hc hQ.1
                          refine n_icmp_ne (tgt := 284) hC dL_isSound_268 (by omega) (by omega) (by decide) (fun zc268 => ?_) (fun zc268 => ?_)
                          · exact jc_62 _ _ hX_160 hS_156 ls (lv_sub hl [0, 1, 2, 3, 4, 5, 6] rfl)
                          · refine lv_aload_n hx hb dL_isSound_271 rfl (lvG hl rfl) ?_
                            refine lv_iload_n hx hb dL_isSound_272 rfl (lvG hl rfl) ?_
                            refine lv_iconst (v := nI 1) hx hb dL_isSound_273 (by decide) ?_
                            refine k_callMI0 (k_goV (rest := []) hC hK (w_q_event l g x a n f cn rq_161 hQ (nI ca) (nI 1)) L_L_X4_event (⟨⟨Nat.le_of_ble_eq_true rfl, Nat.le_of_ble_eq_true rfl⟩, ⟨rfl, rfl⟩, ⟨Nat.le_of_ble_eq_true rfl, Nat.le_of_ble_eq_true rfl⟩⟩) (hX_160.recv hK) (⟨hB_162, hT_163⟩) rfl hl.1 rfl (Nat.le_of_ble_eq_true rfl) dL_isSound_274) hS_156 ((fun _ c => c)) (fun r_ H_165 locs_166 hq_167 hz_ hk_169 hS_168 => ?_)
                            obtain ⟨e_170, hT_171⟩ := hq_167
                            rw [e_evn hQ.2.1 hQ.1 hca (by decide)] at e_170
                            subst e_170
                            have hX_172 := hbk_164 H_165 hk_169 hT_171
                            obtain ⟨rq_173, hB_174, hT_175, hbk_176⟩ := hX_172.q hc hQ.1
                            refine lv_bipush (v := nI 20) hx hb dL_isSound_277 (by decide) ?_
                            refine n_icmp_eq (tgt := 284) hC dL_isSound_279 (by omega) (by omega) (by decide) (fun zc279 => ?_) (fun zc279 => ?_)
                            · exact jc_62 _ _ hX_172 hS_168 ls (lv_sub hl [0, 1, 2, 3, 4, 5, 6] rfl)
                            · first | exact absurd rfl zc223 | exact absurd zc238 (by omega) | exact absurd zc253 (by omega) | exact absurd (o4 zc268) zc279
                  refine lv_iload hx hb dL_isSound_181 (lvG hl rfl) ?_
                  refine z_if_ne (tgt := 190) hC dL_isSound_183 (by decide) (fun zc183 => ?_) (fun zc183 => ?_)
                  · refine lv_iconst (v := nI 0) hx hb dL_isSound_190 (by decide) ?_
                    refine lv_aload_n hx hb dL_isSound_191 rfl (lvG hl rfl) ?_
                    refine lv_iload_n hx hb dL_isSound_192 rfl (lvG hl rfl) ?_
                    refine k_callPI (k_goV (rest := [.int (nI 0)]) hC hK (w_q_loopArea l g x a n f cn rq_4 hQ (nI ca)) L_L_X4_loopArea (⟨⟨Nat.le_of_ble_eq_true rfl, Nat.le_of_ble_eq_true rfl⟩, ⟨rfl, rfl⟩, ⟨Nat.le_of_ble_eq_true rfl, Nat.le_of_ble_eq_true rfl⟩⟩) (hX.recv hK) (hB_5) rfl hl.1 rfl (Nat.le_of_ble_eq_true rfl) dL_isSound_193) ?_
                    rw [e_loa hQ.2.1 hQ.1 hca]
                    refine z_if_ne (tgt := 203) hC dL_isSound_196 (by decide) (fun zc196 => ?_) (fun zc196 => ?_)
                    · refine lv_iconst (v := nI 0) hx hb dL_isSound_203 (by decide) ?_
                      refine n_icmp_eq (tgt := 214) hC dL_isSound_204 (by decide) (by decide) (by decide) (fun _ => ?_) (fun c => absurd c (by decide))
                      exact jc_8 _ _ hX hS ls (lv_sub hl [0, 1, 2, 3, 4, 5, 6] rfl)
                    · refine lv_iconst (v := nI 1) hx hb dL_isSound_199 (by decide) ?_
                      refine lv_goto (tgt := 204) hx hb dL_isSound_200 (by decide) ?_
                      refine n_icmp_eq (tgt := 214) hC dL_isSound_204 (by decide) (by decide) (by decide) (fun c => absurd c (by decide)) (fun _ => ?_)
                      refine lv_iload hx hb dL_isSound_207 (lvG hl rfl) ?_
                      refine z_if_ne (tgt := 214) hC dL_isSound_209 (by decide) (fun zc209 => ?_) (fun zc209 => ?_)
                      · exact jc_8 _ _ hX hS ls (lv_sub hl [0, 1, 2, 3, 4, 5, 6] rfl)
                      · first | exact absurd var_eq.symm zc138 | exact absurd rfl zc148 | exact absurd zc155 (by decide) | exact absurd zc170 (Int32.not_lt.mpr (pa_nn hrg).1) | exact absurd zc178 (Int32.not_lt.mpr (pa_nn hrg).2) | exact absurd zc209 zc183
                  · refine lv_iconst (v := nI 1) hx hb dL_isSound_186 (by decide) ?_
                    refine lv_goto (tgt := 191) hx hb dL_isSound_187 (by decide) ?_
                    refine lv_aload_n hx hb dL_isSound_191 rfl (lvG hl rfl) ?_
                    refine lv_iload_n hx hb dL_isSound_192 rfl (lvG hl rfl) ?_
                    refine k_callPI (k_goV (rest := [.int (nI 1)]) hC hK (w_q_loopArea l g x a n f cn rq_4 hQ (nI ca)) L_L_X4_loopArea (⟨⟨Nat.le_of_ble_eq_true rfl, Nat.le_of_ble_eq_true rfl⟩, ⟨rfl, rfl⟩, ⟨Nat.le_of_ble_eq_true rfl, Nat.le_of_ble_eq_true rfl⟩⟩) (hX.recv hK) (hB_5) rfl hl.1 rfl (Nat.le_of_ble_eq_true rfl) dL_isSound_193) ?_
                    rw [e_loa hQ.2.1 hQ.1 hca]
                    refine z_if_ne (tgt := 203) hC dL_isSound_196 (by decide) (fun zc196 => ?_) (fun zc196 => ?_)
                    · exact absurd (lo_0 zc183) zc196
                    · refine lv_iconst (v := nI 1) hx hb dL_isSound_199 (by decide) ?_
                      refine lv_goto (tgt := 204) hx hb dL_isSound_200 (by decide) ?_
                      refine n_icmp_eq (tgt := 214) hC dL_isSound_204 (by decide) (by decide) (by decide) (fun _ => ?_) (fun c => absurd c (by decide))
                      exact jc_8 _ _ hX hS ls (lv_sub hl [0, 1, 2, 3, 4, 5, 6] rfl)
      · refine lv_aload_n hx hb dL_isSound_18 rfl (lvG hl rfl) ?_
        refine lv_iload_n hx hb dL_isSound_19 rfl (lvG hl rfl) ?_
        refine lv_iconst (v := nI 0) hx hb dL_isSound_20 (by decide) ?_
        refine lv_iload hx hb dL_isSound_21 (lvG hl rfl) ?_
        obtain ⟨rq_177, hB_178, hT_179, hbk_180⟩ := hX.q hc hQ.1
        refine k_callPI (k_goV (rest := []) hC hK (w_q_pressure l g x a n f cn rq_177 hQ (nI ca) (nI 0) (nI zs)) L_L_X4_pressure (⟨⟨Nat.le_of_ble_eq_true rfl, Nat.le_of_ble_eq_true rfl⟩, ⟨rfl, rfl⟩, ⟨Nat.le_of_ble_eq_true rfl, Nat.le_of_ble_eq_true rfl⟩⟩) (hX.recv hK) (hB_178) rfl hl.1 rfl (Nat.le_of_ble_eq_true rfl) dL_isSound_23) ?_
        rw [e_p0 hQ.2.1 hQ.1 hca (by omega)]
        refine lv_aload_n hx hb dL_isSound_26 rfl (lvG hl rfl) ?_
        refine lv_iload_n hx hb dL_isSound_27 rfl (lvG hl rfl) ?_
        refine lv_iconst (v := nI 1) hx hb dL_isSound_28 (by decide) ?_
        refine lv_iload hx hb dL_isSound_29 (lvG hl rfl) ?_
        refine k_callPI (k_goV (rest := [.int (s_pt f ca zs)]) hC hK (w_q_pressure l g x a n f cn rq_177 hQ (nI ca) (nI 1) (nI zs)) L_L_X4_pressure (⟨⟨Nat.le_of_ble_eq_true rfl, Nat.le_of_ble_eq_true rfl⟩, ⟨rfl, rfl⟩, ⟨Nat.le_of_ble_eq_true rfl, Nat.le_of_ble_eq_true rfl⟩⟩) (hX.recv hK) (hB_178) rfl hl.1 rfl (Nat.le_of_ble_eq_true rfl) dL_isSound_31) ?_
        rw [e_p1 hQ.2.1 hQ.1 hca (by omega)]
        refine lv_isub hx hb dL_isSound_34 ?_
        refine lv_istore (lv' := [(7, .int ((s_pt f ca zs) - (s_pt f ca (21 + zs)))), (6, .int (nI zs)), (5, .int (v_mo (s_pt f ca) zs)), (4, .int (s_ls (s_pt f ca) zs)), (3, .int (v_ar (s_pt f ca) zs)), (0, .ref (x 0)), (1, .int (nI ca)), (2, .int (yy))]) hx hb dL_isSound_35 hl (by decide) rfl (fun ls hl => ?_)
        have hl : lv_has ls 14 [(7, .int (s_df (s_pt f ca) zs)), (6, .int (nI zs)), (5, .int (v_mo (s_pt f ca) zs)), (4, .int (s_ls (s_pt f ca) zs)), (3, .int (v_ar (s_pt f ca) zs)), (0, .ref (x 0)), (1, .int (nI ca)), (2, .int (yy))] := lv_eq hl (by rfl)
        refine lv_iload_n hx hb dL_isSound_37 rfl (lvG hl rfl) ?_
        refine lv_iload hx hb dL_isSound_38 (lvG hl rfl) ?_
        have jn_59 : ∀ (v_59 : Int32) (hv_59 : v_59 = if zs = 0 ∨ zs = 20 then s_df (s_pt f ca) zs else nI 2 * s_df (s_pt f ca) zs) (ls : Array Slot) (hl : lv_has ls 14 [(7, .int (s_df (s_pt f ca) zs)), (6, .int (nI zs)), (5, .int (v_mo (s_pt f ca) zs)), (4, .int (s_ls (s_pt f ca) zs)), (3, .int (v_ar (s_pt f ca) zs)), (0, .ref (x 0)), (1, .int (nI ca)), (2, .int (yy))]), W p l e (rr 5 115) s m [.ref (x 0), .int (nI ca), .int (yy)].toArray below meth c s.heap [] 0 0 (MQ below (qI (SC x) (fun r H1 => r = nI 1 ∧ XW g x a M f n H1)) [.ref (x 0), .int (nI ca), .int (yy)].toArray s 0 0 (SC x)) (F0 m 59 ls (.int (v_59) :: .int (v_ar (s_pt f ca) zs) :: [])) := by
          intro v_59 hv_59 ls hl
          refine lv_iadd hx hb dL_isSound_59 ?_
          refine lv_istore_n (lv' := [(3, .int ((v_ar (s_pt f ca) zs) + v_59)), (7, .int (s_df (s_pt f ca) zs)), (6, .int (nI zs)), (5, .int (v_mo (s_pt f ca) zs)), (4, .int (s_ls (s_pt f ca) zs)), (0, .ref (x 0)), (1, .int (nI ca)), (2, .int (yy))]) hx hb dL_isSound_60 rfl hl (by decide) rfl (fun ls hl => ?_)
          have hl : lv_has ls 14 [(3, .int (v_ar (s_pt f ca) (zs + 1))), (7, .int (s_df (s_pt f ca) zs)), (6, .int (nI zs)), (5, .int (v_mo (s_pt f ca) zs)), (4, .int (s_ls (s_pt f ca) zs)), (0, .ref (x 0)), (1, .int (nI ca)), (2, .int (yy))] := lv_eq hl (by rw [hv_59]; rfl)
          refine lv_iload hx hb dL_isSound_61 (lvG hl rfl) ?_
          refine lv_iload hx hb dL_isSound_63 (lvG hl rfl) ?_
          have jn_76 : ∀ (v_76 : Int32) (hv_76 : v_76 = if s_df (s_pt f ca) zs < nI 0 then nI 1 <<< (nI zs &&& 31) else nI 0) (ls : Array Slot) (hl : lv_has ls 14 [(3, .int (v_ar (s_pt f ca) (zs + 1))), (7, .int (s_df (s_pt f ca) zs)), (6, .int (nI zs)), (5, .int (v_mo (s_pt f ca) zs)), (4, .int (s_ls (s_pt f ca) zs)), (0, .ref (x 0)), (1, .int (nI ca)), (2, .int (yy))]), W p l e (rr 5 115) s m [.ref (x 0), .int (nI ca), .int (yy)].toArray below meth c s.heap [] 0 0 (MQ below (qI (SC x) (fun r H1 => r = nI 1 ∧ XW g x a M f n H1)) [.ref (x 0), .int (nI ca), .int (yy)].toArray s 0 0 (SC x)) (F0 m 76 ls (.int (v_76) :: .int (s_ls (s_pt f ca) zs) :: [])) := by
            intro v_76 hv_76 ls hl
            refine lv_ior hx hb dL_isSound_76 ?_
            refine lv_istore (lv' := [(4, .int ((s_ls (s_pt f ca) zs) ||| v_76)), (3, .int (v_ar (s_pt f ca) (zs + 1))), (7, .int (s_df (s_pt f ca) zs)), (6, .int (nI zs)), (5, .int (v_mo (s_pt f ca) zs)), (0, .ref (x 0)), (1, .int (nI ca)), (2, .int (yy))]) hx hb dL_isSound_77 hl (by decide) rfl (fun ls hl => ?_)
            have hl : lv_has ls 14 [(4, .int (s_ls (s_pt f ca) (zs + 1))), (3, .int (v_ar (s_pt f ca) (zs + 1))), (7, .int (s_df (s_pt f ca) zs)), (6, .int (nI zs)), (5, .int (v_mo (s_pt f ca) zs)), (0, .ref (x 0)), (1, .int (nI ca)), (2, .int (yy))] := lv_eq hl (by rw [hv_76]; rfl)
            refine lv_aload_n hx hb dL_isSound_79 rfl (lvG hl rfl) ?_
            refine lv_iload_n hx hb dL_isSound_80 rfl (lvG hl rfl) ?_
            refine lv_iconst (v := nI 0) hx hb dL_isSound_81 (by decide) ?_
            refine lv_iload hx hb dL_isSound_82 (lvG hl rfl) ?_
            refine k_callPI (k_goV (rest := []) hC hK (w_q_pressure l g x a n f cn rq_177 hQ (nI ca) (nI 0) (nI zs)) L_L_X4_pressure (⟨⟨Nat.le_of_ble_eq_true rfl, Nat.le_of_ble_eq_true rfl⟩, ⟨rfl, rfl⟩, ⟨Nat.le_of_ble_eq_true rfl, Nat.le_of_ble_eq_true rfl⟩⟩) (hX.recv hK) (hB_178) rfl hl.1 rfl (Nat.le_of_ble_eq_true rfl) dL_isSound_84) ?_
            rw [e_p0 hQ.2.1 hQ.1 hca (by omega)]
            refine lv_iload hx hb dL_isSound_87 (lvG hl rfl) ?_
            have jn_105 : ∀ (v_105 : Int32) (hv_105 : v_105 = if v_mo (s_pt f ca) zs < s_pt f ca zs then s_pt f ca zs else v_mo (s_pt f ca) zs) (ls : Array Slot) (hl : lv_has ls 14 [(4, .int (s_ls (s_pt f ca) (zs + 1))), (3, .int (v_ar (s_pt f ca) (zs + 1))), (7, .int (s_df (s_pt f ca) zs)), (6, .int (nI zs)), (5, .int (v_mo (s_pt f ca) zs)), (0, .ref (x 0)), (1, .int (nI ca)), (2, .int (yy))]), W p l e (rr 5 115) s m [.ref (x 0), .int (nI ca), .int (yy)].toArray below meth c s.heap [] 0 0 (MQ below (qI (SC x) (fun r H1 => r = nI 1 ∧ XW g x a M f n H1)) [.ref (x 0), .int (nI ca), .int (yy)].toArray s 0 0 (SC x)) (F0 m 105 ls (.int (v_105) :: [])) := by
              intro v_105 hv_105 ls hl
              refine lv_istore (lv' := [(5, .int (v_105)), (4, .int (s_ls (s_pt f ca) (zs + 1))), (3, .int (v_ar (s_pt f ca) (zs + 1))), (7, .int (s_df (s_pt f ca) zs)), (6, .int (nI zs)), (0, .ref (x 0)), (1, .int (nI ca)), (2, .int (yy))]) hx hb dL_isSound_105 hl (by decide) rfl (fun ls hl => ?_)
              have hl : lv_has ls 14 [(5, .int (v_mo (s_pt f ca) (zs + 1))), (4, .int (s_ls (s_pt f ca) (zs + 1))), (3, .int (v_ar (s_pt f ca) (zs + 1))), (7, .int (s_df (s_pt f ca) zs)), (6, .int (nI zs)), (0, .ref (x 0)), (1, .int (nI ca)), (2, .int (yy))] := lv_eq hl (by rw [hv_105]; rfl)
              refine n_iinc (lv' := [(6, .int (nI (zs + 1))), (5, .int (v_mo (s_pt f ca) (zs + 1))), (4, .int (s_ls (s_pt f ca) (zs + 1))), (3, .int (v_ar (s_pt f ca) (zs + 1))), (7, .int (s_df (s_pt f ca) zs)), (0, .ref (x 0)), (1, .int (nI ca)), (2, .int (yy))]) hC dL_isSound_107 hl rfl (by decide) rfl (fun ls hl => ?_)
              refine lv_goto (tgt := 11) hx hb dL_isSound_110 (by decide) ?_
              exact ih_3 (zs + 1)  (by first | omega | assumption | rfl) (by omega) ls (lv_sub hl [0, 1, 2, 3, 5, 6, 7] rfl)
            refine lv_icmp_le (tgt := 103) hx hb dL_isSound_89 (by decide) (fun zc89 => ?_) (fun zc89 => ?_)
            · refine lv_iload hx hb dL_isSound_103 (lvG hl rfl) ?_
              exact jn_105 (v_mo (s_pt f ca) zs) (by first | exact (if_neg (Int32.not_lt.mpr zc89)).symm | exact (if_pos (Int32.not_le.mp zc89)).symm) ls hl
            · refine lv_aload_n hx hb dL_isSound_92 rfl (lvG hl rfl) ?_
              refine lv_iload_n hx hb dL_isSound_93 rfl (lvG hl rfl) ?_
              refine lv_iconst (v := nI 0) hx hb dL_isSound_94 (by decide) ?_
              refine lv_iload hx hb dL_isSound_95 (lvG hl rfl) ?_
              refine k_callPI (k_goV (rest := []) hC hK (w_q_pressure l g x a n f cn rq_177 hQ (nI ca) (nI 0) (nI zs)) L_L_X4_pressure (⟨⟨Nat.le_of_ble_eq_true rfl, Nat.le_of_ble_eq_true rfl⟩, ⟨rfl, rfl⟩, ⟨Nat.le_of_ble_eq_true rfl, Nat.le_of_ble_eq_true rfl⟩⟩) (hX.recv hK) (hB_178) rfl hl.1 rfl (Nat.le_of_ble_eq_true rfl) dL_isSound_97) ?_
              rw [e_p0 hQ.2.1 hQ.1 hca (by omega)]
              refine lv_goto (tgt := 105) hx hb dL_isSound_100 (by decide) ?_
              exact jn_105 (s_pt f ca zs) (by first | exact (if_neg (Int32.not_lt.mpr zc89)).symm | exact (if_pos (Int32.not_le.mp zc89)).symm) ls hl
          refine z_if_ge (tgt := 75) hC dL_isSound_65 (by decide) (fun zc65 => ?_) (fun zc65 => ?_)
          · refine lv_iconst (v := nI 0) hx hb dL_isSound_75 (by decide) ?_
            exact jn_76 (nI 0) (by first | exact (if_neg (Int32.not_lt.mpr zc65)).symm | exact (if_pos (Int32.not_le.mp zc65)).symm) ls hl
          · refine lv_iconst (v := nI 1) hx hb dL_isSound_68 (by decide) ?_
            refine lv_iload hx hb dL_isSound_69 (lvG hl rfl) ?_
            refine lv_ishl hx hb dL_isSound_71 ?_
            refine lv_goto (tgt := 76) hx hb dL_isSound_72 (by decide) ?_
            exact jn_76 ((nI 1) <<< ((nI zs) &&& 31)) (by first | exact (if_neg (Int32.not_lt.mpr zc65)).symm | exact (if_pos (Int32.not_le.mp zc65)).symm) ls hl
        refine n_if_eq (tgt := 50) hC dL_isSound_40 (by omega) (by decide) (fun zc40 => ?_) (fun zc40 => ?_)
        · refine lv_iload hx hb dL_isSound_50 (lvG hl rfl) ?_
          refine lv_goto (tgt := 59) hx hb dL_isSound_52 (by decide) ?_
          exact jn_59 (s_df (s_pt f ca) zs) (by first | exact (if_pos (Or.inl zc40)).symm | exact (if_pos (Or.inr zc47)).symm | exact (if_neg (fun q => q.elim zc40 zc47)).symm) ls hl
        · refine lv_iload hx hb dL_isSound_43 (lvG hl rfl) ?_
          refine lv_bipush (v := nI 20) hx hb dL_isSound_45 (by decide) ?_
          refine n_icmp_ne (tgt := 55) hC dL_isSound_47 (by omega) (by omega) (by decide) (fun zc47 => ?_) (fun zc47 => ?_)
          · refine lv_iconst (v := nI 2) hx hb dL_isSound_55 (by decide) ?_
            refine lv_iload hx hb dL_isSound_56 (lvG hl rfl) ?_
            refine lv_imul hx hb dL_isSound_58 ?_
            exact jn_59 ((nI 2) * (s_df (s_pt f ca) zs)) (by first | exact (if_pos (Or.inl zc40)).symm | exact (if_pos (Or.inr zc47)).symm | exact (if_neg (fun q => q.elim zc40 zc47)).symm) ls hl
          · refine lv_iload hx hb dL_isSound_50 (lvG hl rfl) ?_
            refine lv_goto (tgt := 59) hx hb dL_isSound_52 (by decide) ?_
            exact jn_59 (s_df (s_pt f ca) zs) (by first | exact (if_pos (Or.inl zc40)).symm | exact (if_pos (Or.inr zc47)).symm | exact (if_neg (fun q => q.elim zc40 zc47)).symm) ls hl
  exact key_1 ((21 - 0) + 1) 0  (by first | rfl | omega | assumption) (Nat.lt_succ_self _) ls (lv_sub hl [0, 1, 2, 3, 4, 5, 6] rfl)
