theorem L_L_X4_cardCount : LnkV RL 36 yX4_cardCount cX4_cardCount 1 (some .int) 0 := ⟨w_325, w_326, w_327, w_25, w_328, ⟨by decide +kernel, by decide +kernel⟩, by decide +kernel⟩
theorem L_L_X4_imbalance : LnkV RL 67 yX4_imbalance cX4_imbalance 5 (some .int) 0 := ⟨w_505, w_506, w_507, w_25, w_508, ⟨by decide +kernel, by decide +kernel⟩, by decide +kernel⟩
theorem L_L_X4_balancingCutOff : LnkV RL 70 yX4_balancingCutOff cX4_balancingCutOff 3 (some .int) 0 := ⟨w_513, w_514, w_515, w_25, w_516, ⟨by decide +kernel, by decide +kernel⟩, by decide +kernel⟩
theorem L_L_X4_end : LnkV RL 40 yX4_end cX4_end 2 (some .int) 1 := ⟨w_469, w_470, w_471, w_25, w_472, ⟨by decide +kernel, by decide +kernel⟩, by decide +kernel⟩
theorem L_L_X4_speed : LnkV RL 45 yX4_speed cX4_speed 2 (some .int) 1 := ⟨w_474, w_475, w_476, w_25, w_477, ⟨by decide +kernel, by decide +kernel⟩, by decide +kernel⟩
theorem L_L_X4_power : LnkV RL 48 yX4_power cX4_power 2 (some .long) 1 := ⟨w_478, w_479, w_480, w_25, w_481, ⟨by decide +kernel, by decide +kernel⟩, by decide +kernel⟩
theorem L_L_X4_slip : LnkV RL 51 yX4_slip cX4_slip 8 (some .int) 1 := ⟨w_482, w_483, w_484, w_25, w_485, ⟨by decide +kernel, by decide +kernel⟩, by decide +kernel⟩
theorem L_L_X4_leakage : LnkV RL 54 yX4_leakage cX4_leakage 4 (some .int) 1 := ⟨w_497, w_498, w_499, w_25, w_500, ⟨by decide +kernel, by decide +kernel⟩, by decide +kernel⟩
theorem L_L_X4_event : LnkV RL 64 yX4_event cX4_event 3 (some .int) 2 := ⟨w_353, w_354, w_355, w_25, w_356, ⟨by decide +kernel, by decide +kernel⟩, by decide +kernel⟩
theorem L_L_X4_constant : LnkV RL 61 yX4_constant cX4_constant 3 (some .int) 2 := ⟨w_501, w_502, w_503, w_25, w_504, ⟨by decide +kernel, by decide +kernel⟩, by decide +kernel⟩
theorem L_L_X4_pressure : LnkV RL 57 yX4_pressure cX4_pressure 4 (some .int) 3 := ⟨w_329, w_330, w_331, w_25, w_332, ⟨by decide +kernel, by decide +kernel⟩, by decide +kernel⟩
theorem L_L_X4_cardsOf : LnkV RL 18 yX4_cardsOf cX4_cardsOf 2 (some .int) 1 := ⟨w_421, w_422, w_423, w_25, w_424, ⟨by decide +kernel, by decide +kernel⟩, by decide +kernel⟩
theorem L_L_X4_meanArea : LnkV RL 22 yX4_meanArea cX4_meanArea 2 (some .int) 1 := ⟨w_429, w_430, w_431, w_25, w_432, ⟨by decide +kernel, by decide +kernel⟩, by decide +kernel⟩
theorem L_L_X4_idealArea : LnkV RL 27 yX4_idealArea cX4_idealArea 2 (some .int) 1 := ⟨w_393, w_394, w_395, w_25, w_396, ⟨by decide +kernel, by decide +kernel⟩, by decide +kernel⟩
theorem L_L_X4_meanPower : LnkV RL 32 yX4_meanPower cX4_meanPower 2 (some .long) 1 := ⟨w_440, w_441, w_442, w_25, w_443, ⟨by decide +kernel, by decide +kernel⟩, by decide +kernel⟩
theorem L_L_X4_valve : LnkV RL 10 yX4_valve cX4_valve 3 (some .int) 2 := ⟨w_228, w_229, w_230, w_25, w_231, ⟨by decide +kernel, by decide +kernel⟩, by decide +kernel⟩
set_option maxHeartbeats 4000000 in
set_option maxRecDepth 100000 in
theorem c_L_all (l : Launch) (g : kG) (x : Nat → Nat) (a : Nat → Nat) (M : Nat → Prop) (f : Nat → Int32) (n : Nat) (ft : Nat → Int32) (cn : Nat) (hQ : QF ft cn) (hft : ∀ j, j < 502 → f j = ft j) : ML l yL_all cL_all 5 (some .long) (rr 7 173) [.ref (x 0)] ((XW g x a M f n)) g 0 0 (SC x) (fun r H1 => r = v_all ft cn ∧ XW g x a M f n H1) := by
  refine kOf (by decide) (Nat.le_of_ble_eq_true rfl) (fun p e s m below meth c ls hC hr hlk hin hK hP hl => ?_)
  have hx := hC.1
  have hb := hC.2.1
  have hml := hC.2.2.1
  have hown := hC.2.2.2.1
  have hts := hC.2.2.2.2
  have hl : lv_has ls 5 [(0, .ref (x 0))] := hl
  have hX := hP
  have hcn := hQ.1
  have hc : f 61 = nI cn := (hft 61 (by decide)).trans hQ.2.1
  have hS : va_S (SC x) s.heap s.heap [] := va_S.rf
  refine lv_ldc2 (v := (31 : Int64)) hx hb hown (hts _ w_419) dL_all_0 ?_
  refine lv_lstore_n (lv' := [(1, .long ((31 : Int64))), (0, .ref (x 0))]) hx hb dL_all_3 rfl hl (by decide) rfl (fun ls hl => ?_)
  refine lv_iconst (v := nI 0) hx hb dL_all_4 (by decide) ?_
  refine lv_istore_n (lv' := [(3, .int (nI 0)), (1, .long ((31 : Int64))), (0, .ref (x 0))]) hx hb dL_all_5 rfl hl (by decide) rfl (fun ls hl => ?_)
  have key_1 : ∀ (k_2 : Nat) (zk : Nat)  (hzk : zk ≤ 8) (hk_k_2 : 8 - zk < k_2) (ls : Array Slot) (hl : lv_has ls 5 [(3, .int (nI zk)), (1, .long (v_a1 ft zk)), (0, .ref (x 0))]), W p l e (rr 7 173) s m [.ref (x 0)].toArray below meth c s.heap [] 0 0 (MQ below (qL (SC x) (fun r H1 => r = v_all ft cn ∧ XW g x a M f n H1)) [.ref (x 0)].toArray s 0 0 (SC x)) (F0 m 6 ls ([])) := by
    intro k_2
    induction k_2 with
    | zero => intro zk hzk hk_k_2 ls hl; exact absurd hk_k_2 (Nat.not_lt_zero _)
    | succ k_2 ih_3 =>
      intro zk hzk hk_k_2 ls hl
      refine lv_iload_n hx hb dL_all_6 rfl (lvG hl rfl) ?_
      refine lv_bipush (v := nI 8) hx hb dL_all_7 (by decide) ?_
      refine n_icmp_ge (tgt := 36) hC dL_all_9 (by omega) (by omega) (by decide) (fun zc9 => ?_) (fun zc9 => ?_)
      · have hl : lv_has ls 5 [(3, .int (nI zk)), (1, .long (v_a1 ft 8)), (0, .ref (x 0))] := lv_eq hl (by rw [show zk = 8 by omega])
        refine lv_iconst (v := nI 0) hx hb dL_all_36 (by decide) ?_
        refine lv_istore_n (lv' := [(3, .int (nI 0)), (1, .long (v_a1 ft 8)), (0, .ref (x 0))]) hx hb dL_all_37 rfl hl (by decide) rfl (fun ls hl => ?_)
        have key_4 : ∀ (k_5 : Nat) (ze : Nat) (H5 : Heap) (locs5 : List Loc) (hX5 : XW g x a M f n H5) (hS5 : va_S (SC x) s.heap H5 locs5) (hze : ze ≤ 2) (hk_k_5 : 2 - ze < k_5) (ls : Array Slot) (hl : lv_has ls 5 [(3, .int (nI ze)), (1, .long (v_a2 ft cn ze)), (0, .ref (x 0))]), W p l e (rr 7 173) s m [.ref (x 0)].toArray below meth c H5 locs5 0 0 (MQ below (qL (SC x) (fun r H1 => r = v_all ft cn ∧ XW g x a M f n H1)) [.ref (x 0)].toArray s 0 0 (SC x)) (F0 m 38 ls ([])) := by
          intro k_5
          induction k_5 with
          | zero => intro ze H5 locs5 hX5 hS5 hze hk_k_5 ls hl; exact absurd hk_k_5 (Nat.not_lt_zero _)
          | succ k_5 ih_6 =>
            intro ze H5 locs5 hX5 hS5 hze hk_k_5 ls hl
            refine lv_iload_n hx hb dL_all_38 rfl (lvG hl rfl) ?_
            refine lv_iconst (v := nI 2) hx hb dL_all_39 (by decide) ?_
            refine n_icmp_ge (tgt := 94) hC dL_all_40 (by omega) (by omega) (by decide) (fun zc40 => ?_) (fun zc40 => ?_)
            · have hl : lv_has ls 5 [(3, .int (nI ze)), (1, .long (v_a2 ft cn 2)), (0, .ref (x 0))] := lv_eq hl (by rw [show ze = 2 by omega])
              refine lv_iconst (v := nI 0) hx hb dL_all_94 (by decide) ?_
              refine lv_istore_n (lv' := [(3, .int (nI 0)), (1, .long (v_a2 ft cn 2)), (0, .ref (x 0))]) hx hb dL_all_95 rfl hl (by decide) rfl (fun ls hl => ?_)
              have key_7 : ∀ (k_8 : Nat) (zi : Nat) (H6 : Heap) (locs6 : List Loc) (hX6 : XW g x a M f n H6) (hS6 : va_S (SC x) s.heap H6 locs6) (hzi : zi ≤ cn) (hk_k_8 : cn - zi < k_8) (ls : Array Slot) (hl : lv_has ls 5 [(3, .int (nI zi)), (1, .long (v_a3 ft cn zi)), (0, .ref (x 0))]), W p l e (rr 7 173) s m [.ref (x 0)].toArray below meth c H6 locs6 0 0 (MQ below (qL (SC x) (fun r H1 => r = v_all ft cn ∧ XW g x a M f n H1)) [.ref (x 0)].toArray s 0 0 (SC x)) (F0 m 96 ls ([])) := by
                intro k_8
                induction k_8 with
                | zero => intro zi H6 locs6 hX6 hS6 hzi hk_k_8 ls hl; exact absurd hk_k_8 (Nat.not_lt_zero _)
                | succ k_8 ih_9 =>
                  intro zi H6 locs6 hX6 hS6 hzi hk_k_8 ls hl
                  refine lv_iload_n hx hb dL_all_96 rfl (lvG hl rfl) ?_
                  refine lv_aload_n hx hb dL_all_97 rfl (lvG hl rfl) ?_
                  obtain ⟨rq_10, hB_11, hT_12, hbk_13⟩ := hX6.q hc hQ.1
                  have hB_11 := hB_11.congr502 hQ.1 hft
                  refine k_callPI (k_goV (rest := [.int (nI zi)]) hC hK (w_q_cardCount l g x a n ft cn rq_10 hQ) L_L_X4_cardCount (⟨⟨Nat.le_of_ble_eq_true rfl, Nat.le_of_ble_eq_true rfl⟩, ⟨rfl, rfl⟩, ⟨Nat.le_of_ble_eq_true rfl, Nat.le_of_ble_eq_true rfl⟩⟩) (hX6.recv hK) (hB_11) rfl hl.1 rfl (Nat.le_of_ble_eq_true rfl) dL_all_98) ?_
                  refine n_icmp_ge (tgt := 266) hC dL_all_101 (by omega) (by omega) (by decide) (fun zc101 => ?_) (fun zc101 => ?_)
                  · have hl : lv_has ls 5 [(3, .int (nI zi)), (1, .long (v_a3 ft cn cn)), (0, .ref (x 0))] := lv_eq hl (by rw [show zi = cn by omega])
                    refine lv_ldc2 (v := (31 : Int64)) hx hb hown (hts _ w_419) dL_all_266 ?_
                    refine lv_lload_n hx hb dL_all_269 rfl (lvG hl rfl) ?_
                    refine lv_lmul hx hb dL_all_270 ?_
                    refine lv_aload_n hx hb dL_all_271 rfl (lvG hl rfl) ?_
                    refine k_callPI (k_goV (rest := [.long (((31 : Int64)) * (v_a3 ft cn cn))]) hC hK (w_q_cardCount l g x a n ft cn rq_10 hQ) L_L_X4_cardCount (⟨⟨Nat.le_of_ble_eq_true rfl, Nat.le_of_ble_eq_true rfl⟩, ⟨rfl, rfl⟩, ⟨Nat.le_of_ble_eq_true rfl, Nat.le_of_ble_eq_true rfl⟩⟩) (hX6.recv hK) (hB_11) rfl hl.1 rfl (Nat.le_of_ble_eq_true rfl) dL_all_272) ?_
                    refine lv_i2l (v := (nI cn).toInt64) hx hb dL_all_275 rfl ?_
                    refine lv_ladd hx hb dL_all_276 ?_
                    refine lv_aload_n hx hb dL_all_277 rfl (lvG hl rfl) ?_
                    refine k_callPI (k_goV (rest := [.long ((((31 : Int64)) * (v_a3 ft cn cn)) + ((nI cn).toInt64))]) hC hK (w_q_imbalance l g x a n ft cn rq_10 hQ) L_L_X4_imbalance (⟨⟨Nat.le_of_ble_eq_true rfl, Nat.le_of_ble_eq_true rfl⟩, ⟨rfl, rfl⟩, ⟨Nat.le_of_ble_eq_true rfl, Nat.le_of_ble_eq_true rfl⟩⟩) (hX6.recv hK) (hB_11) rfl hl.1 rfl (Nat.le_of_ble_eq_true rfl) dL_all_278) ?_
                    refine lv_i2l (v := (s_im ft cn).toInt64) hx hb dL_all_281 rfl ?_
                    refine lv_ladd hx hb dL_all_282 ?_
                    refine lv_aload_n hx hb dL_all_283 rfl (lvG hl rfl) ?_
                    refine k_callMI0 (k_goV (rest := [.long (((((31 : Int64)) * (v_a3 ft cn cn)) + ((nI cn).toInt64)) + ((s_im ft cn).toInt64))]) hC hK (w_q_balancingCutOff l g x a n ft cn rq_10 hQ) L_L_X4_balancingCutOff (⟨⟨Nat.le_of_ble_eq_true rfl, Nat.le_of_ble_eq_true rfl⟩, ⟨rfl, rfl⟩, ⟨Nat.le_of_ble_eq_true rfl, Nat.le_of_ble_eq_true rfl⟩⟩) (hX6.recv hK) (⟨hB_11, hT_12⟩) rfl hl.1 rfl (Nat.le_of_ble_eq_true rfl) dL_all_284) hS6 ((fun _ c => c)) (fun r_ H_14 locs_15 hq_16 hz_ hk_18 hS_17 => ?_)
                    obtain ⟨e_19, hT_20⟩ := hq_16
                    subst e_19
                    have hX_21 := hbk_13 H_14 hk_18 hT_20
                    obtain ⟨rq_22, hB_23, hT_24, hbk_25⟩ := hX_21.q hc hQ.1
                    have hB_23 := hB_23.congr502 hQ.1 hft
                    refine lv_i2l (v := (k_bal ft).toInt64) hx hb dL_all_287 rfl ?_
                    refine lv_ladd hx hb dL_all_288 ?_
                    exact k_lretM hC hr hlk hS_17 dL_all_289 (⟨rfl, hX_21⟩)
                  · refine lv_ldc2 (v := (31 : Int64)) hx hb hown (hts _ w_419) dL_all_104 ?_
                    refine lv_lload_n hx hb dL_all_107 rfl (lvG hl rfl) ?_
                    refine lv_lmul hx hb dL_all_108 ?_
                    refine lv_aload_n hx hb dL_all_109 rfl (lvG hl rfl) ?_
                    refine lv_iload_n hx hb dL_all_110 rfl (lvG hl rfl) ?_
                    refine k_callPI (k_goV (rest := [.long (((31 : Int64)) * (v_a3 ft cn zi))]) hC hK (w_q_end l g x a n ft cn rq_10 hQ (nI zi)) L_L_X4_end (⟨⟨Nat.le_of_ble_eq_true rfl, Nat.le_of_ble_eq_true rfl⟩, ⟨rfl, rfl⟩, ⟨Nat.le_of_ble_eq_true rfl, Nat.le_of_ble_eq_true rfl⟩⟩) (hX6.recv hK) (hB_11) rfl hl.1 rfl (Nat.le_of_ble_eq_true rfl) dL_all_111) ?_
                    refine lv_i2l (v := (q_end ft (nI zi)).toInt64) hx hb dL_all_114 rfl ?_
                    refine lv_ladd hx hb dL_all_115 ?_
                    refine lv_ldc2 (v := (2 : Int64)) hx hb hown (hts _ w_473) dL_all_116 ?_
                    refine lv_aload_n hx hb dL_all_119 rfl (lvG hl rfl) ?_
                    refine lv_iload_n hx hb dL_all_120 rfl (lvG hl rfl) ?_
                    refine k_callPI (k_goV (rest := [.long ((2 : Int64)), .long ((((31 : Int64)) * (v_a3 ft cn zi)) + ((q_end ft (nI zi)).toInt64))]) hC hK (w_q_speed l g x a n ft cn rq_10 hQ (nI zi)) L_L_X4_speed (⟨⟨Nat.le_of_ble_eq_true rfl, Nat.le_of_ble_eq_true rfl⟩, ⟨rfl, rfl⟩, ⟨Nat.le_of_ble_eq_true rfl, Nat.le_of_ble_eq_true rfl⟩⟩) (hX6.recv hK) (hB_11) rfl hl.1 rfl (Nat.le_of_ble_eq_true rfl) dL_all_121) ?_
                    refine lv_i2l (v := (q_spd ft (nI zi)).toInt64) hx hb dL_all_124 rfl ?_
                    refine lv_lmul hx hb dL_all_125 ?_
                    refine lv_ladd hx hb dL_all_126 ?_
                    refine lv_ldc2 (v := (3 : Int64)) hx hb hown (hts _ w_438) dL_all_127 ?_
                    refine lv_aload_n hx hb dL_all_130 rfl (lvG hl rfl) ?_
                    refine lv_iload_n hx hb dL_all_131 rfl (lvG hl rfl) ?_
                    refine k_callPL (k_goV (rest := [.long ((3 : Int64)), .long (((((31 : Int64)) * (v_a3 ft cn zi)) + ((q_end ft (nI zi)).toInt64)) + (((2 : Int64)) * ((q_spd ft (nI zi)).toInt64)))]) hC hK (w_q_power l g x a n ft cn rq_10 hQ (nI zi)) L_L_X4_power (⟨⟨Nat.le_of_ble_eq_true rfl, Nat.le_of_ble_eq_true rfl⟩, ⟨rfl, rfl⟩, ⟨Nat.le_of_ble_eq_true rfl, Nat.le_of_ble_eq_true rfl⟩⟩) (hX6.recv hK) (hB_11) rfl hl.1 rfl (Nat.le_of_ble_eq_true rfl) dL_all_132) ?_
                    refine lv_lmul hx hb dL_all_135 ?_
                    refine lv_ladd hx hb dL_all_136 ?_
                    refine lv_ldc2 (v := (5 : Int64)) hx hb hown (hts _ w_439) dL_all_137 ?_
                    refine lv_aload_n hx hb dL_all_140 rfl (lvG hl rfl) ?_
                    refine lv_iload_n hx hb dL_all_141 rfl (lvG hl rfl) ?_
                    refine k_callMI0 (k_goV (rest := [.long ((5 : Int64)), .long ((((((31 : Int64)) * (v_a3 ft cn zi)) + ((q_end ft (nI zi)).toInt64)) + (((2 : Int64)) * ((q_spd ft (nI zi)).toInt64))) + (((3 : Int64)) * (q_pow ft (nI zi))))]) hC hK (w_q_slip l g x a n ft cn rq_10 hQ (nI zi)) L_L_X4_slip (⟨⟨Nat.le_of_ble_eq_true rfl, Nat.le_of_ble_eq_true rfl⟩, ⟨rfl, rfl⟩, ⟨Nat.le_of_ble_eq_true rfl, Nat.le_of_ble_eq_true rfl⟩⟩) (hX6.recv hK) (⟨hB_11, hT_12⟩) rfl hl.1 rfl (Nat.le_of_ble_eq_true rfl) dL_all_142) hS6 ((fun _ c => c)) (fun r_ H_26 locs_27 hq_28 hz_ hk_30 hS_29 => ?_)
                    obtain ⟨e_31, hT_32⟩ := hq_28
                    subst e_31
                    have hX_33 := hbk_13 H_26 hk_30 hT_32
                    obtain ⟨rq_34, hB_35, hT_36, hbk_37⟩ := hX_33.q hc hQ.1
                    have hB_35 := hB_35.congr502 hQ.1 hft
                    refine lv_i2l (v := (q_sli ft (nI zi)).toInt64) hx hb dL_all_145 rfl ?_
                    refine lv_lmul hx hb dL_all_146 ?_
                    refine lv_ladd hx hb dL_all_147 ?_
                    refine lv_ldc2 (v := (7 : Int64)) hx hb hown (hts _ w_420) dL_all_148 ?_
                    refine lv_aload_n hx hb dL_all_151 rfl (lvG hl rfl) ?_
                    refine lv_iload_n hx hb dL_all_152 rfl (lvG hl rfl) ?_
                    refine k_callMI0 (k_goV (rest := [.long ((7 : Int64)), .long (((((((31 : Int64)) * (v_a3 ft cn zi)) + ((q_end ft (nI zi)).toInt64)) + (((2 : Int64)) * ((q_spd ft (nI zi)).toInt64))) + (((3 : Int64)) * (q_pow ft (nI zi)))) + (((5 : Int64)) * ((q_sli ft (nI zi)).toInt64)))]) hC hK (w_q_leakage l g x a n ft cn rq_34 hQ (nI zi)) L_L_X4_leakage (⟨⟨Nat.le_of_ble_eq_true rfl, Nat.le_of_ble_eq_true rfl⟩, ⟨rfl, rfl⟩, ⟨Nat.le_of_ble_eq_true rfl, Nat.le_of_ble_eq_true rfl⟩⟩) (hX_33.recv hK) (⟨hB_35, hT_36⟩) rfl hl.1 rfl (Nat.le_of_ble_eq_true rfl) dL_all_153) hS_29 ((fun _ c => c)) (fun r_ H_38 locs_39 hq_40 hz_ hk_42 hS_41 => ?_)
                    obtain ⟨e_43, hT_44⟩ := hq_40
                    subst e_43
                    have hX_45 := hbk_37 H_38 hk_42 hT_44
                    obtain ⟨rq_46, hB_47, hT_48, hbk_49⟩ := hX_45.q hc hQ.1
                    have hB_47 := hB_47.congr502 hQ.1 hft
                    refine lv_i2l (v := (q_lea ft (nI zi)).toInt64) hx hb dL_all_156 rfl ?_
                    refine lv_lmul hx hb dL_all_157 ?_
                    refine lv_ladd hx hb dL_all_158 ?_
                    refine lv_topl (fun z1 ez1 => ?_)
                    refine lv_lstore_n (lv' := [(1, .long (z1)), (3, .int (nI zi)), (0, .ref (x 0))]) hx hb dL_all_159 rfl hl (by decide) rfl (fun ls hl => ?_)
                    refine lv_iconst (v := nI 0) hx hb dL_all_160 (by decide) ?_
                    refine lv_istore (lv' := [(4, .int (nI 0)), (1, .long (z1)), (3, .int (nI zi)), (0, .ref (x 0))]) hx hb dL_all_161 hl (by decide) rfl (fun ls hl => ?_)
                    have key_50 : ∀ (k_51 : Nat) (zj : Nat)  (hzj : zj ≤ 42) (hk_k_51 : 42 - zj < k_51) (ls : Array Slot) (hl : lv_has ls 5 [(4, .int (nI zj)), (1, .long (v_b1 ft zi z1 zj)), (3, .int (nI zi)), (0, .ref (x 0))]), W p l e (rr 7 173) s m [.ref (x 0)].toArray below meth c H_38 locs_39 0 0 (MQ below (qL (SC x) (fun r H1 => r = v_all ft cn ∧ XW g x a M f n H1)) [.ref (x 0)].toArray s 0 0 (SC x)) (F0 m 163 ls ([])) := by
                      intro k_51
                      induction k_51 with
                      | zero => intro zj hzj hk_k_51 ls hl; exact absurd hk_k_51 (Nat.not_lt_zero _)
                      | succ k_51 ih_52 =>
                        intro zj hzj hk_k_51 ls hl
                        refine lv_iload hx hb dL_all_163 (lvG hl rfl) ?_
                        refine lv_bipush (v := nI 42) hx hb dL_all_165 (by decide) ?_
                        refine n_icmp_ge (tgt := 199) hC dL_all_167 (by omega) (by omega) (by decide) (fun zc167 => ?_) (fun zc167 => ?_)
                        · have hl : lv_has ls 5 [(4, .int (nI zj)), (1, .long (v_b1 ft zi z1 42)), (3, .int (nI zi)), (0, .ref (x 0))] := lv_eq hl (by rw [show zj = 42 by omega])
                          refine lv_iconst (v := nI 0) hx hb dL_all_199 (by decide) ?_
                          refine lv_istore (lv' := [(4, .int (nI 0)), (1, .long (v_b1 ft zi z1 42)), (3, .int (nI zi)), (0, .ref (x 0))]) hx hb dL_all_200 hl (by decide) rfl (fun ls hl => ?_)
                          have key_53 : ∀ (k_54 : Nat) (zs : Nat)  (hzs : zs ≤ 21) (hk_k_54 : 21 - zs < k_54) (ls : Array Slot) (hl : lv_has ls 5 [(4, .int (nI zs)), (1, .long (v_b2 ft zi (v_b1 ft zi z1 42) zs)), (3, .int (nI zi)), (0, .ref (x 0))]), W p l e (rr 7 173) s m [.ref (x 0)].toArray below meth c H_38 locs_39 0 0 (MQ below (qL (SC x) (fun r H1 => r = v_all ft cn ∧ XW g x a M f n H1)) [.ref (x 0)].toArray s 0 0 (SC x)) (F0 m 202 ls ([])) := by
                            intro k_54
                            induction k_54 with
                            | zero => intro zs hzs hk_k_54 ls hl; exact absurd hk_k_54 (Nat.not_lt_zero _)
                            | succ k_54 ih_55 =>
                              intro zs hzs hk_k_54 ls hl
                              refine lv_iload hx hb dL_all_202 (lvG hl rfl) ?_
                              refine lv_bipush (v := nI 21) hx hb dL_all_204 (by decide) ?_
                              refine n_icmp_ge (tgt := 230) hC dL_all_206 (by omega) (by omega) (by decide) (fun zc206 => ?_) (fun zc206 => ?_)
                              · have hl : lv_has ls 5 [(4, .int (nI zs)), (1, .long (v_b2 ft zi (v_b1 ft zi z1 42) 21)), (3, .int (nI zi)), (0, .ref (x 0))] := lv_eq hl (by rw [show zs = 21 by omega])
                                refine lv_iconst (v := nI 0) hx hb dL_all_230 (by decide) ?_
                                refine lv_istore (lv' := [(4, .int (nI 0)), (1, .long (v_b2 ft zi (v_b1 ft zi z1 42) 21)), (3, .int (nI zi)), (0, .ref (x 0))]) hx hb dL_all_231 hl (by decide) rfl (fun ls hl => ?_)
                                have key_56 : ∀ (k_57 : Nat) (zw : Nat) (H7 : Heap) (locs7 : List Loc) (hX7 : XW g x a M f n H7) (hS7 : va_S (SC x) s.heap H7 locs7) (hzw : zw ≤ 4) (hk_k_57 : 4 - zw < k_57) (ls : Array Slot) (hl : lv_has ls 5 [(4, .int (nI zw)), (1, .long (v_b3 ft zi (v_b2 ft zi (v_b1 ft zi z1 42) 21) zw)), (3, .int (nI zi)), (0, .ref (x 0))]), W p l e (rr 7 173) s m [.ref (x 0)].toArray below meth c H7 locs7 0 0 (MQ below (qL (SC x) (fun r H1 => r = v_all ft cn ∧ XW g x a M f n H1)) [.ref (x 0)].toArray s 0 0 (SC x)) (F0 m 233 ls ([])) := by
                                  intro k_57
                                  induction k_57 with
                                  | zero => intro zw H7 locs7 hX7 hS7 hzw hk_k_57 ls hl; exact absurd hk_k_57 (Nat.not_lt_zero _)
                                  | succ k_57 ih_58 =>
                                    intro zw H7 locs7 hX7 hS7 hzw hk_k_57 ls hl
                                    refine lv_iload hx hb dL_all_233 (lvG hl rfl) ?_
                                    refine lv_iconst (v := nI 4) hx hb dL_all_235 (by decide) ?_
                                    refine n_icmp_ge (tgt := 260) hC dL_all_236 (by omega) (by omega) (by decide) (fun zc236 => ?_) (fun zc236 => ?_)
                                    · have hl : lv_has ls 5 [(4, .int (nI zw)), (1, .long (v_a3 ft cn (zi + 1))), (3, .int (nI zi)), (0, .ref (x 0))] := lv_eq hl (by rw [show zw = 4 by omega, ez1]; rfl)
                                      refine n_iinc (lv' := [(3, .int (nI (zi + 1))), (4, .int (nI zw)), (1, .long (v_a3 ft cn (zi + 1))), (0, .ref (x 0))]) hC dL_all_260 hl rfl (by decide) rfl (fun ls hl => ?_)
                                      refine lv_goto (tgt := 96) hx hb dL_all_263 (by decide) ?_
                                      exact ih_9 (zi + 1) _ _ hX7 hS7 (by first | omega | assumption | rfl) (by omega) ls (lv_sub hl [0, 2, 3] rfl)
                                    · refine lv_ldc2 (v := (31 : Int64)) hx hb hown (hts _ w_419) dL_all_239 ?_
                                      refine lv_lload_n hx hb dL_all_242 rfl (lvG hl rfl) ?_
                                      refine lv_lmul hx hb dL_all_243 ?_
                                      refine lv_aload_n hx hb dL_all_244 rfl (lvG hl rfl) ?_
                                      refine lv_iload_n hx hb dL_all_245 rfl (lvG hl rfl) ?_
                                      refine lv_iload hx hb dL_all_246 (lvG hl rfl) ?_
                                      obtain ⟨rq_59, hB_60, hT_61, hbk_62⟩ := hX7.q hc hQ.1
                                      have hB_60 := hB_60.congr502 hQ.1 hft
                                      refine k_callMI0 (k_goV (rest := [.long (((31 : Int64)) * (v_b3 ft zi (v_b2 ft zi (v_b1 ft zi z1 42) 21) zw))]) hC hK (w_q_event l g x a n ft cn rq_59 hQ (nI zi) (nI zw)) L_L_X4_event (⟨⟨Nat.le_of_ble_eq_true rfl, Nat.le_of_ble_eq_true rfl⟩, ⟨rfl, rfl⟩, ⟨Nat.le_of_ble_eq_true rfl, Nat.le_of_ble_eq_true rfl⟩⟩) (hX7.recv hK) (⟨hB_60, hT_61⟩) rfl hl.1 rfl (Nat.le_of_ble_eq_true rfl) dL_all_248) hS7 ((fun _ c => c)) (fun r_ H_63 locs_64 hq_65 hz_ hk_67 hS_66 => ?_)
                                      obtain ⟨e_68, hT_69⟩ := hq_65
                                      subst e_68
                                      have hX_70 := hbk_62 H_63 hk_67 hT_69
                                      obtain ⟨rq_71, hB_72, hT_73, hbk_74⟩ := hX_70.q hc hQ.1
                                      have hB_72 := hB_72.congr502 hQ.1 hft
                                      refine lv_i2l (v := (q_evn ft (nI zi) (nI zw)).toInt64) hx hb dL_all_251 rfl ?_
                                      refine lv_ladd hx hb dL_all_252 ?_
                                      refine lv_lstore_n (lv' := [(1, .long ((((31 : Int64)) * (v_b3 ft zi (v_b2 ft zi (v_b1 ft zi z1 42) 21) zw)) + ((q_evn ft (nI zi) (nI zw)).toInt64))), (4, .int (nI zw)), (3, .int (nI zi)), (0, .ref (x 0))]) hx hb dL_all_253 rfl hl (by decide) rfl (fun ls hl => ?_)
                                      refine n_iinc (lv' := [(4, .int (nI (zw + 1))), (1, .long ((((31 : Int64)) * (v_b3 ft zi (v_b2 ft zi (v_b1 ft zi z1 42) 21) zw)) + ((q_evn ft (nI zi) (nI zw)).toInt64))), (3, .int (nI zi)), (0, .ref (x 0))]) hC dL_all_254 hl rfl (by decide) rfl (fun ls hl => ?_)
                                      refine lv_goto (tgt := 233) hx hb dL_all_257 (by decide) ?_
                                      exact ih_58 (zw + 1) _ _ hX_70 hS_66 (by first | omega | assumption | rfl) (by omega) ls (lv_sub hl [0, 1, 2, 3] rfl)
                                exact key_56 ((4 - 0) + 1) 0 _ _ hX_45 hS_41 (by first | rfl | omega | assumption) (Nat.lt_succ_self _) ls (lv_sub hl [0, 1, 2, 3] rfl)
                              · refine lv_ldc2 (v := (31 : Int64)) hx hb hown (hts _ w_419) dL_all_209 ?_
                                refine lv_lload_n hx hb dL_all_212 rfl (lvG hl rfl) ?_
                                refine lv_lmul hx hb dL_all_213 ?_
                                refine lv_aload_n hx hb dL_all_214 rfl (lvG hl rfl) ?_
                                refine lv_iload_n hx hb dL_all_215 rfl (lvG hl rfl) ?_
                                refine lv_iload hx hb dL_all_216 (lvG hl rfl) ?_
                                refine k_callPI (k_goV (rest := [.long (((31 : Int64)) * (v_b2 ft zi (v_b1 ft zi z1 42) zs))]) hC hK (w_q_constant l g x a n ft cn rq_46 hQ (nI zi) (nI zs)) L_L_X4_constant (⟨⟨Nat.le_of_ble_eq_true rfl, Nat.le_of_ble_eq_true rfl⟩, ⟨rfl, rfl⟩, ⟨Nat.le_of_ble_eq_true rfl, Nat.le_of_ble_eq_true rfl⟩⟩) (hX_45.recv hK) (hB_47) rfl hl.1 rfl (Nat.le_of_ble_eq_true rfl) dL_all_218) ?_
                                refine lv_i2l (v := (q_con ft (nI zi) (nI zs)).toInt64) hx hb dL_all_221 rfl ?_
                                refine lv_ladd hx hb dL_all_222 ?_
                                refine lv_lstore_n (lv' := [(1, .long ((((31 : Int64)) * (v_b2 ft zi (v_b1 ft zi z1 42) zs)) + ((q_con ft (nI zi) (nI zs)).toInt64))), (4, .int (nI zs)), (3, .int (nI zi)), (0, .ref (x 0))]) hx hb dL_all_223 rfl hl (by decide) rfl (fun ls hl => ?_)
                                refine n_iinc (lv' := [(4, .int (nI (zs + 1))), (1, .long ((((31 : Int64)) * (v_b2 ft zi (v_b1 ft zi z1 42) zs)) + ((q_con ft (nI zi) (nI zs)).toInt64))), (3, .int (nI zi)), (0, .ref (x 0))]) hC dL_all_224 hl rfl (by decide) rfl (fun ls hl => ?_)
                                refine lv_goto (tgt := 202) hx hb dL_all_227 (by decide) ?_
                                exact ih_55 (zs + 1)  (by first | omega | assumption | rfl) (by omega) ls (lv_sub hl [0, 1, 2, 3] rfl)
                          exact key_53 ((21 - 0) + 1) 0  (by first | rfl | omega | assumption) (Nat.lt_succ_self _) ls (lv_sub hl [0, 1, 2, 3] rfl)
                        · refine lv_ldc2 (v := (31 : Int64)) hx hb hown (hts _ w_419) dL_all_170 ?_
                          refine lv_lload_n hx hb dL_all_173 rfl (lvG hl rfl) ?_
                          refine lv_lmul hx hb dL_all_174 ?_
                          refine lv_aload_n hx hb dL_all_175 rfl (lvG hl rfl) ?_
                          refine lv_iload_n hx hb dL_all_176 rfl (lvG hl rfl) ?_
                          refine lv_iload hx hb dL_all_177 (lvG hl rfl) ?_
                          refine lv_bipush (v := nI 21) hx hb dL_all_179 (by decide) ?_
                          refine n_idiv hC dL_all_181 (by omega) (by omega) (by omega) ?_
                          refine lv_iload hx hb dL_all_182 (lvG hl rfl) ?_
                          refine lv_bipush (v := nI 21) hx hb dL_all_184 (by decide) ?_
                          refine n_irem hC dL_all_186 (by omega) (by omega) (by omega) ?_
                          refine k_callPI (k_goV (rest := [.long (((31 : Int64)) * (v_b1 ft zi z1 zj))]) hC hK (w_q_pressure l g x a n ft cn rq_46 hQ (nI zi) (nI (zj / 21)) (nI (zj % 21))) L_L_X4_pressure (⟨⟨Nat.le_of_ble_eq_true rfl, Nat.le_of_ble_eq_true rfl⟩, ⟨rfl, rfl⟩, ⟨Nat.le_of_ble_eq_true rfl, Nat.le_of_ble_eq_true rfl⟩⟩) (hX_45.recv hK) (hB_47) rfl hl.1 rfl (Nat.le_of_ble_eq_true rfl) dL_all_187) ?_
                          refine lv_i2l (v := (q_prs ft (nI zi) (nI (zj / 21)) (nI (zj % 21))).toInt64) hx hb dL_all_190 rfl ?_
                          refine lv_ladd hx hb dL_all_191 ?_
                          refine lv_lstore_n (lv' := [(1, .long ((((31 : Int64)) * (v_b1 ft zi z1 zj)) + ((q_prs ft (nI zi) (nI (zj / 21)) (nI (zj % 21))).toInt64))), (4, .int (nI zj)), (3, .int (nI zi)), (0, .ref (x 0))]) hx hb dL_all_192 rfl hl (by decide) rfl (fun ls hl => ?_)
                          refine n_iinc (lv' := [(4, .int (nI (zj + 1))), (1, .long ((((31 : Int64)) * (v_b1 ft zi z1 zj)) + ((q_prs ft (nI zi) (nI (zj / 21)) (nI (zj % 21))).toInt64))), (3, .int (nI zi)), (0, .ref (x 0))]) hC dL_all_193 hl rfl (by decide) rfl (fun ls hl => ?_)
                          refine lv_goto (tgt := 163) hx hb dL_all_196 (by decide) ?_
                          exact ih_52 (zj + 1)  (by first | omega | assumption | rfl) (by omega) ls (lv_sub hl [0, 1, 2, 3] rfl)
                    exact key_50 ((42 - 0) + 1) 0  (by first | rfl | omega | assumption) (Nat.lt_succ_self _) ls (lv_sub hl [0, 1, 2, 3] rfl)
              exact key_7 ((cn - 0) + 1) 0 _ _ hX5 hS5 (by first | rfl | omega | assumption) (Nat.lt_succ_self _) ls (lv_sub hl [0, 1, 2] rfl)
            · refine lv_ldc2 (v := (31 : Int64)) hx hb hown (hts _ w_419) dL_all_43 ?_
              refine lv_lload_n hx hb dL_all_46 rfl (lvG hl rfl) ?_
              refine lv_lmul hx hb dL_all_47 ?_
              refine lv_ldc2 (v := (7 : Int64)) hx hb hown (hts _ w_420) dL_all_48 ?_
              refine lv_aload_n hx hb dL_all_51 rfl (lvG hl rfl) ?_
              refine lv_iload_n hx hb dL_all_52 rfl (lvG hl rfl) ?_
              obtain ⟨rq_75, hB_76, hT_77, hbk_78⟩ := hX5.q hc hQ.1
              have hB_76 := hB_76.congr502 hQ.1 hft
              refine k_callPI (k_goV (rest := [.long ((7 : Int64)), .long (((31 : Int64)) * (v_a2 ft cn ze))]) hC hK (w_q_cardsOf l g x a n ft cn rq_75 hQ (nI ze)) L_L_X4_cardsOf (⟨⟨Nat.le_of_ble_eq_true rfl, Nat.le_of_ble_eq_true rfl⟩, ⟨rfl, rfl⟩, ⟨Nat.le_of_ble_eq_true rfl, Nat.le_of_ble_eq_true rfl⟩⟩) (hX5.recv hK) (hB_76) rfl hl.1 rfl (Nat.le_of_ble_eq_true rfl) dL_all_53) ?_
              refine lv_i2l (v := (q_cof ft cn (nI ze)).toInt64) hx hb dL_all_56 rfl ?_
              refine lv_lmul hx hb dL_all_57 ?_
              refine lv_ladd hx hb dL_all_58 ?_
              refine lv_aload_n hx hb dL_all_59 rfl (lvG hl rfl) ?_
              refine lv_iload_n hx hb dL_all_60 rfl (lvG hl rfl) ?_
              refine k_callMI0 (k_goV (rest := [.long ((((31 : Int64)) * (v_a2 ft cn ze)) + (((7 : Int64)) * ((q_cof ft cn (nI ze)).toInt64)))]) hC hK (w_q_meanArea l g x a n ft cn rq_75 hQ (nI ze)) L_L_X4_meanArea (⟨⟨Nat.le_of_ble_eq_true rfl, Nat.le_of_ble_eq_true rfl⟩, ⟨rfl, rfl⟩, ⟨Nat.le_of_ble_eq_true rfl, Nat.le_of_ble_eq_true rfl⟩⟩) (hX5.recv hK) (⟨hB_76, hT_77⟩) rfl hl.1 rfl (Nat.le_of_ble_eq_true rfl) dL_all_61) hS5 ((fun _ c => c)) (fun r_ H_79 locs_80 hq_81 hz_ hk_83 hS_82 => ?_)
              obtain ⟨e_84, hT_85⟩ := hq_81
              subst e_84
              have hX_86 := hbk_78 H_79 hk_83 hT_85
              obtain ⟨rq_87, hB_88, hT_89, hbk_90⟩ := hX_86.q hc hQ.1
              have hB_88 := hB_88.congr502 hQ.1 hft
              refine lv_i2l (v := (s_maR ft (nI ze) cn).toInt64) hx hb dL_all_64 rfl ?_
              refine lv_ladd hx hb dL_all_65 ?_
              refine lv_ldc2 (v := (3 : Int64)) hx hb hown (hts _ w_438) dL_all_66 ?_
              refine lv_aload_n hx hb dL_all_69 rfl (lvG hl rfl) ?_
              refine lv_iload_n hx hb dL_all_70 rfl (lvG hl rfl) ?_
              refine k_callMI0 (k_goV (rest := [.long ((3 : Int64)), .long (((((31 : Int64)) * (v_a2 ft cn ze)) + (((7 : Int64)) * ((q_cof ft cn (nI ze)).toInt64))) + ((s_maR ft (nI ze) cn).toInt64))]) hC hK (w_q_idealArea l g x a n ft cn rq_87 hQ (nI ze)) L_L_X4_idealArea (⟨⟨Nat.le_of_ble_eq_true rfl, Nat.le_of_ble_eq_true rfl⟩, ⟨rfl, rfl⟩, ⟨Nat.le_of_ble_eq_true rfl, Nat.le_of_ble_eq_true rfl⟩⟩) (hX_86.recv hK) (⟨hB_88, hT_89⟩) rfl hl.1 rfl (Nat.le_of_ble_eq_true rfl) dL_all_71) hS_82 ((fun _ c => c)) (fun r_ H_91 locs_92 hq_93 hz_ hk_95 hS_94 => ?_)
              obtain ⟨e_96, hT_97⟩ := hq_93
              subst e_96
              have hX_98 := hbk_90 H_91 hk_95 hT_97
              obtain ⟨rq_99, hB_100, hT_101, hbk_102⟩ := hX_98.q hc hQ.1
              have hB_100 := hB_100.congr502 hQ.1 hft
              refine lv_i2l (v := (q_iar ft (nI ze)).toInt64) hx hb dL_all_74 rfl ?_
              refine lv_lmul hx hb dL_all_75 ?_
              refine lv_ladd hx hb dL_all_76 ?_
              refine lv_ldc2 (v := (5 : Int64)) hx hb hown (hts _ w_439) dL_all_77 ?_
              refine lv_aload_n hx hb dL_all_80 rfl (lvG hl rfl) ?_
              refine lv_iload_n hx hb dL_all_81 rfl (lvG hl rfl) ?_
              refine k_callPL (k_goV (rest := [.long ((5 : Int64)), .long ((((((31 : Int64)) * (v_a2 ft cn ze)) + (((7 : Int64)) * ((q_cof ft cn (nI ze)).toInt64))) + ((s_maR ft (nI ze) cn).toInt64)) + (((3 : Int64)) * ((q_iar ft (nI ze)).toInt64)))]) hC hK (w_q_meanPower l g x a n ft cn rq_99 hQ (nI ze)) L_L_X4_meanPower (⟨⟨Nat.le_of_ble_eq_true rfl, Nat.le_of_ble_eq_true rfl⟩, ⟨rfl, rfl⟩, ⟨Nat.le_of_ble_eq_true rfl, Nat.le_of_ble_eq_true rfl⟩⟩) (hX_98.recv hK) (hB_100) rfl hl.1 rfl (Nat.le_of_ble_eq_true rfl) dL_all_82) ?_
              refine lv_lmul hx hb dL_all_85 ?_
              refine lv_ladd hx hb dL_all_86 ?_
              refine lv_lstore_n (lv' := [(1, .long (((((((31 : Int64)) * (v_a2 ft cn ze)) + (((7 : Int64)) * ((q_cof ft cn (nI ze)).toInt64))) + ((s_maR ft (nI ze) cn).toInt64)) + (((3 : Int64)) * ((q_iar ft (nI ze)).toInt64))) + (((5 : Int64)) * (q_mpw ft cn (nI ze))))), (3, .int (nI ze)), (0, .ref (x 0))]) hx hb dL_all_87 rfl hl (by decide) rfl (fun ls hl => ?_)
              refine n_iinc (lv' := [(3, .int (nI (ze + 1))), (1, .long (((((((31 : Int64)) * (v_a2 ft cn ze)) + (((7 : Int64)) * ((q_cof ft cn (nI ze)).toInt64))) + ((s_maR ft (nI ze) cn).toInt64)) + (((3 : Int64)) * ((q_iar ft (nI ze)).toInt64))) + (((5 : Int64)) * (q_mpw ft cn (nI ze))))), (0, .ref (x 0))]) hC dL_all_88 hl rfl (by decide) rfl (fun ls hl => ?_)
              refine lv_goto (tgt := 38) hx hb dL_all_91 (by decide) ?_
              exact ih_6 (ze + 1) _ _ hX_98 hS_94 (by first | omega | assumption | rfl) (by omega) ls (lv_sub hl [0, 1, 2] rfl)
        exact key_4 ((2 - 0) + 1) 0 _ _ hX hS (by first | rfl | omega | assumption) (Nat.lt_succ_self _) ls (lv_sub hl [0, 1, 2] rfl)
      · refine lv_ldc2 (v := (31 : Int64)) hx hb hown (hts _ w_419) dL_all_12 ?_
        refine lv_lload_n hx hb dL_all_15 rfl (lvG hl rfl) ?_
        refine lv_lmul hx hb dL_all_16 ?_
        refine lv_aload_n hx hb dL_all_17 rfl (lvG hl rfl) ?_
        refine lv_iload_n hx hb dL_all_18 rfl (lvG hl rfl) ?_
        refine lv_iconst (v := nI 4) hx hb dL_all_19 (by decide) ?_
        refine n_idiv hC dL_all_20 (by omega) (by omega) (by omega) ?_
        refine lv_iload_n hx hb dL_all_21 rfl (lvG hl rfl) ?_
        refine lv_iconst (v := nI 4) hx hb dL_all_22 (by decide) ?_
        refine n_irem hC dL_all_23 (by omega) (by omega) (by omega) ?_
        obtain ⟨rq_103, hB_104, hT_105, hbk_106⟩ := hX.q hc hQ.1
        have hB_104 := hB_104.congr502 hQ.1 hft
        refine k_callPI (k_goV (rest := [.long (((31 : Int64)) * (v_a1 ft zk))]) hC hK (w_q_valve l g x a n ft cn rq_103 hQ (nI (zk / 4)) (nI (zk % 4))) L_L_X4_valve (⟨⟨Nat.le_of_ble_eq_true rfl, Nat.le_of_ble_eq_true rfl⟩, ⟨rfl, rfl⟩, ⟨Nat.le_of_ble_eq_true rfl, Nat.le_of_ble_eq_true rfl⟩⟩) (hX.recv hK) (hB_104) rfl hl.1 rfl (Nat.le_of_ble_eq_true rfl) dL_all_24) ?_
        refine lv_i2l (v := (s_vaR ft (nI (zk / 4)) (nI (zk % 4))).toInt64) hx hb dL_all_27 rfl ?_
        refine lv_ladd hx hb dL_all_28 ?_
        refine lv_lstore_n (lv' := [(1, .long ((((31 : Int64)) * (v_a1 ft zk)) + ((s_vaR ft (nI (zk / 4)) (nI (zk % 4))).toInt64))), (3, .int (nI zk)), (0, .ref (x 0))]) hx hb dL_all_29 rfl hl (by decide) rfl (fun ls hl => ?_)
        refine n_iinc (lv' := [(3, .int (nI (zk + 1))), (1, .long ((((31 : Int64)) * (v_a1 ft zk)) + ((s_vaR ft (nI (zk / 4)) (nI (zk % 4))).toInt64))), (0, .ref (x 0))]) hC dL_all_30 hl rfl (by decide) rfl (fun ls hl => ?_)
        refine lv_goto (tgt := 6) hx hb dL_all_33 (by decide) ?_
        exact ih_3 (zk + 1)  (by first | omega | assumption | rfl) (by omega) ls (lv_sub hl [0, 1, 2] rfl)
  exact key_1 ((8 - 0) + 1) 0  (by first | rfl | omega | assumption) (Nat.lt_succ_self _) ls (lv_sub hl [0, 1, 2] rfl)
