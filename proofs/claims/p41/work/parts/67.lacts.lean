theorem GD.pa {f : Nat → Int32} {n : Nat} {en v : Int32} (hn : n ≤ 4) (h : GD f n) : GD (s_putf f n (s_plPA en) (s_okPA en v) v) (s_putn n (s_okPA en v)) := by
  unfold s_plPA
  by_cases c : en = nI 1
  · rw [if_pos c]; exact h.put hn (by decide) (fun z _ h => h.u2 (iv_of z.2 (by decide) (by decide)))
  · rw [if_neg c]; exact h.put hn (by decide) (fun z _ h => h.u1 (iv_of z.2 (by decide) (by decide)))
theorem GD.aik {f : Nat → Int32} {n cn : Nat} {en sp sh lk : Int32} (hn : n ≤ 4) (h : GD f n) (hc : f 61 = nI cn) (hcn : cn ≤ 10) : GD (k_aiF f n cn en sp sh lk) (s_aiN f n cn en sp sh lk) :=
  (h.ai hn hc hcn).congr (by unfold s_aiN; split; exact recn_le hn; exact hn) (fun k hk => (ai_eq (h.rec hn).1.1 h.1.2.1 k hk).symm)
theorem GB.qn {f : Nat → Int32} {cn : Nat} (h : GB f) (hc : f 61 = nI cn) (hcn : cn ≤ 10) : QF f cn := by
  obtain ⟨h1, h2, -, c2, h3, h4, h5⟩ := h
  have e : c2 = cn := (nI_eq (by omega) (by omega)).mp (h4.symm.trans hc)
  subst e
  exact ⟨h3, h4, h1, h2, h5⟩
theorem L_L_X4_setClearance : LnkV RL 96 yX4_setClearance cX4_setClearance 3 (some .int) 1 := ⟨w_197, w_198, w_199, w_25, w_200, ⟨by decide +kernel, by decide +kernel⟩, by decide +kernel⟩
theorem L_L_X4_setPistonArea : LnkV RL 99 yX4_setPistonArea cX4_setPistonArea 4 (some .int) 2 := ⟨w_566, w_567, w_568, w_25, w_569, ⟨by decide +kernel, by decide +kernel⟩, by decide +kernel⟩
theorem L_L_X4_setStroke : LnkV RL 102 yX4_setStroke cX4_setStroke 3 (some .int) 1 := ⟨w_570, w_571, w_572, w_25, w_573, ⟨by decide +kernel, by decide +kernel⟩, by decide +kernel⟩
theorem L_L_X4_setBoilerPressure : LnkV RL 105 yX4_setBoilerPressure cX4_setBoilerPressure 3 (some .int) 1 := ⟨w_574, w_575, w_576, w_25, w_577, ⟨by decide +kernel, by decide +kernel⟩, by decide +kernel⟩
theorem L_L_X4_setBackPressure : LnkV RL 108 yX4_setBackPressure cX4_setBackPressure 3 (some .int) 1 := ⟨w_578, w_579, w_580, w_25, w_581, ⟨by decide +kernel, by decide +kernel⟩, by decide +kernel⟩
theorem L_L_X4_setFinding : LnkV RL 111 yX4_setFinding cX4_setFinding 4 (some .int) 2 := ⟨w_582, w_583, w_584, w_25, w_585, ⟨by decide +kernel, by decide +kernel⟩, by decide +kernel⟩
theorem L_L_X4_setValves : LnkV RL 114 yX4_setValves cX4_setValves 7 (some .int) 5 := ⟨w_586, w_587, w_588, w_25, w_589, ⟨by decide +kernel, by decide +kernel⟩, by decide +kernel⟩
theorem L_L_X4_beginCard : LnkV RL 118 yX4_beginCard cX4_beginCard 4 (some .int) 2 := ⟨w_246, w_247, w_248, w_25, w_249, ⟨by decide +kernel, by decide +kernel⟩, by decide +kernel⟩
theorem L_L_X4_setPoint : LnkV RL 121 yX4_setPoint cX4_setPoint 5 (some .int) 3 := ⟨w_257, w_258, w_259, w_25, w_260, ⟨by decide +kernel, by decide +kernel⟩, by decide +kernel⟩
theorem L_L_X4_finishCard : LnkV RL 124 yX4_finishCard cX4_finishCard 3 (some .int) 0 := ⟨w_275, w_276, w_277, w_25, w_278, ⟨by decide +kernel, by decide +kernel⟩, by decide +kernel⟩
theorem L_L_X4_addIdealCard : LnkV RL 127 yX4_addIdealCard cX4_addIdealCard 6 (some .int) 4 := ⟨w_299, w_300, w_301, w_25, w_302, ⟨by decide +kernel, by decide +kernel⟩, by decide +kernel⟩
theorem L_L_X4_removeCard : LnkV RL 131 yX4_removeCard cX4_removeCard 2 (some .int) 1 := ⟨w_593, w_594, w_595, w_25, w_596, ⟨by decide +kernel, by decide +kernel⟩, by decide +kernel⟩
set_option maxHeartbeats 4000000 in
set_option maxRecDepth 100000 in
theorem c_L_acts (l : Launch) (g : kG) (x : Nat → Nat) (a : Nat → Nat) (M : Nat → Prop) (f : Nat → Int32) (n : Nat) (cn : Nat) (hcn : cn ≤ 10) (hc : f 61 = nI cn) (hG : GD f n) (sz : Nat) (hMU : ∀ q, MU x M q → q < sz) (yy : Int32) : MI l yL_acts cL_acts 3 (some .int) (rc 5 129 3 46) [.ref (x 0), .int (yy)] ((fun H => H.size = sz ∧ XW g x a M f n H)) g 3 46 (fun q => MF x M q ∨ sz ≤ q) (fun r H1 => ∃ F N, XW g x a M F N H1 ∧ GD F N ∧ AC f F N r) := by
  refine kOf (by decide) (Nat.le_of_ble_eq_true rfl) (fun p e s m below meth c ls hC hr hlk hin hK hP hl => ?_)
  have hx := hC.1
  have hb := hC.2.1
  have hml := hC.2.2.1
  have hown := hC.2.2.2.1
  have hts := hC.2.2.2.2
  have hl : lv_has ls 3 [(0, .ref (x 0)), (1, .int (yy))] := hl
  have hX := hP.2
  have hn4 := hX.1
  have hQ : QF f cn := hG.1.qn hc hcn
  have hS : va_S (fun q => MF x M q ∨ sz ≤ q) s.heap s.heap [] := va_S.rf
  refine lv_iload_n hx hb dL_acts_0 rfl (lvG hl rfl) ?_
  refine lv_iconst (v := nI 4) hx hb dL_acts_1 (by decide) ?_
  refine lv_ishr hx hb dL_acts_2 ?_
  refine lv_iload_n hx hb dL_acts_3 rfl (lvG hl rfl) ?_
  refine lv_bipush (v := nI 26) hx hb dL_acts_4 (by decide) ?_
  refine lv_ishr hx hb dL_acts_6 ?_
  refine lv_bipush (v := nI 7) hx hb dL_acts_7 (by decide) ?_
  refine lv_iand hx hb dL_acts_9 ?_
  have jn_18 : ∀ (v_18 : Nat) (hv_18 : v_18 = 2 ∨ v_18 = 3) (ls : Array Slot) (hl : lv_has ls 3 [(0, .ref (x 0)), (1, .int (yy))]), W p l e (rc 5 129 3 46) s m [.ref (x 0), .int (yy)].toArray below meth c s.heap [] 0 0 (MQ below (qI (fun q => MF x M q ∨ sz ≤ q) (fun r H1 => ∃ F N, XW g x a M F N H1 ∧ GD F N ∧ AC f F N r)) [.ref (x 0), .int (yy)].toArray s 3 46 (fun q => MF x M q ∨ sz ≤ q)) (F0 m 18 ls (.int (nI v_18) :: .int (yy >>> ((nI 4) &&& 31)) :: [])) := by
    intro v_18 hv_18 ls hl
    refine k_callPI (k_goS (rest := []) hC hK (c_L_low l g (yy >>> ((nI 4) &&& 31)) (nI v_18) (by rcases hv_18 with q | q <;> rw [q] <;> decide)) L_L_L_low (⟨⟨Nat.le_of_ble_eq_true rfl, Nat.le_of_ble_eq_true rfl⟩, ⟨rfl, rfl⟩, ⟨Nat.le_of_ble_eq_true rfl, Nat.le_of_ble_eq_true rfl⟩⟩) (trivial) rfl hl.1 rfl (Nat.le_of_ble_eq_true rfl) dL_acts_18) ?_
    refine lv_topi (fun en een => ?_)
    refine lv_istore_n (lv' := [(2, .int (en)), (0, .ref (x 0)), (1, .int (yy))]) hx hb dL_acts_21 rfl hl (by decide) rfl (fun ls hl => ?_)
    obtain ⟨jy, hjy, ejy⟩ := low_in yy (k := 16) (by decide) (by decide)
    refine lv_iload_n hx hb dL_acts_22 rfl (lvG hl rfl) ?_
    refine lv_bipush (v := nI 16) hx hb dL_acts_23 (by decide) ?_
    refine k_callPI (k_goS (rest := []) hC hK (c_L_low l g yy (nI 16) (by decide)) L_L_L_low (⟨⟨Nat.le_of_ble_eq_true rfl, Nat.le_of_ble_eq_true rfl⟩, ⟨rfl, rfl⟩, ⟨Nat.le_of_ble_eq_true rfl, Nat.le_of_ble_eq_true rfl⟩⟩) (trivial) rfl hl.1 rfl (Nat.le_of_ble_eq_true rfl) dL_acts_25) ?_
    rw [ejy]
    rcases (show jy = 0 ∨ jy = 1 ∨ jy = 2 ∨ jy = 3 ∨ jy = 4 ∨ jy = 5 ∨ jy = 6 ∨ jy = 7 ∨ jy = 8 ∨ jy = 9 ∨ jy = 10 ∨ jy = 11 ∨ jy = 12 ∨ jy = 13 ∨ jy = 14 ∨ jy = 15 by omega) with zj | zj | zj | zj | zj | zj | zj | zj | zj | zj | zj | zj | zj | zj | zj | zj
    · subst zj
      refine lv_tableIn (off := 76) (tgt := 104) hx hb dL_acts_28 (by decide) (by decide) rfl (by decide) ?_
      refine lv_aload_n hx hb dL_acts_104 rfl (lvG hl rfl) ?_
      refine lv_iload_n hx hb dL_acts_105 rfl (lvG hl rfl) ?_
      refine lv_bipush (v := nI 8) hx hb dL_acts_106 (by decide) ?_
      refine lv_ishr hx hb dL_acts_108 ?_
      refine lv_bipush (v := nI 22) hx hb dL_acts_109 (by decide) ?_
      refine k_callPI (k_goS (rest := [.ref (x 0)]) hC hK (c_L_low l g (yy >>> ((nI 8) &&& 31)) (nI 22) (by decide)) L_L_L_low (⟨⟨Nat.le_of_ble_eq_true rfl, Nat.le_of_ble_eq_true rfl⟩, ⟨rfl, rfl⟩, ⟨Nat.le_of_ble_eq_true rfl, Nat.le_of_ble_eq_true rfl⟩⟩) (trivial) rfl hl.1 rfl (Nat.le_of_ble_eq_true rfl) dL_acts_111) ?_
      refine k_callMI0 (k_goV (rest := []) hC hK (c_X4_setClearance l g x a M f n (v_low (yy >>> ((nI 8) &&& 31)) (nI 22))) L_L_X4_setClearance (⟨⟨Nat.le_of_ble_eq_true rfl, Nat.le_of_ble_eq_true rfl⟩, ⟨rfl, rfl⟩, ⟨Nat.le_of_ble_eq_true rfl, Nat.le_of_ble_eq_true rfl⟩⟩) (hX.recv hK) (hX) rfl hl.1 rfl (Nat.le_of_ble_eq_true rfl) dL_acts_114) hS ((fun _ c => Or.inl (Or.inl c))) (fun r_ H_1 locs_2 hq_3 hz_ hk_5 hS_4 => ?_)
      obtain ⟨e_6, hX_7⟩ := hq_3
      refine W.widen (k := 3) (n := 46) (by omega) (by omega) ?_
      exact k_iretM hC hr hlk hS_4 dL_acts_117 (⟨_, _, hX_7, hG.put hn4 (by decide) (fun c _ h => h.u0 (iv_of c (by decide) (by decide))), by rw [e_6]; exact ac_put hn4 (by decide) (by have := hG.1.1.1.1; omega)⟩)
    · subst zj
      refine lv_tableIn (off := 90) (tgt := 118) hx hb dL_acts_28 (by decide) (by decide) rfl (by decide) ?_
      refine lv_aload_n hx hb dL_acts_118 rfl (lvG hl rfl) ?_
      refine lv_iload_n hx hb dL_acts_119 rfl (lvG hl rfl) ?_
      refine lv_iload_n hx hb dL_acts_120 rfl (lvG hl rfl) ?_
      refine lv_bipush (v := nI 8) hx hb dL_acts_121 (by decide) ?_
      refine lv_ishr hx hb dL_acts_123 ?_
      refine lv_sipush (v := nI 5002) hx hb dL_acts_124 (by decide) ?_
      refine k_callPI (k_goS (rest := [.int (en), .ref (x 0)]) hC hK (c_L_low l g (yy >>> ((nI 8) &&& 31)) (nI 5002) (by decide)) L_L_L_low (⟨⟨Nat.le_of_ble_eq_true rfl, Nat.le_of_ble_eq_true rfl⟩, ⟨rfl, rfl⟩, ⟨Nat.le_of_ble_eq_true rfl, Nat.le_of_ble_eq_true rfl⟩⟩) (trivial) rfl hl.1 rfl (Nat.le_of_ble_eq_true rfl) dL_acts_127) ?_
      refine k_callMI0 (k_goV (rest := []) hC hK (c_X4_setPistonArea l g x a M f n en (v_low (yy >>> ((nI 8) &&& 31)) (nI 5002))) L_L_X4_setPistonArea (⟨⟨Nat.le_of_ble_eq_true rfl, Nat.le_of_ble_eq_true rfl⟩, ⟨rfl, rfl⟩, ⟨Nat.le_of_ble_eq_true rfl, Nat.le_of_ble_eq_true rfl⟩⟩) (hX.recv hK) (hX) rfl hl.1 rfl (Nat.le_of_ble_eq_true rfl) dL_acts_130) hS ((fun _ c => Or.inl (Or.inl c))) (fun r_ H_8 locs_9 hq_10 hz_ hk_12 hS_11 => ?_)
      obtain ⟨e_13, hX_14⟩ := hq_10
      refine W.widen (k := 3) (n := 46) (by omega) (by omega) ?_
      exact k_iretM hC hr hlk hS_11 dL_acts_133 (⟨_, _, hX_14, GD.pa hn4 hG, by rw [e_13]; exact ac_pa hn4 hG.1.1⟩)
    · subst zj
      refine lv_tableIn (off := 106) (tgt := 134) hx hb dL_acts_28 (by decide) (by decide) rfl (by decide) ?_
      refine lv_aload_n hx hb dL_acts_134 rfl (lvG hl rfl) ?_
      refine lv_iload_n hx hb dL_acts_135 rfl (lvG hl rfl) ?_
      refine lv_bipush (v := nI 8) hx hb dL_acts_136 (by decide) ?_
      refine lv_ishr hx hb dL_acts_138 ?_
      refine lv_sipush (v := nI 302) hx hb dL_acts_139 (by decide) ?_
      refine k_callPI (k_goS (rest := [.ref (x 0)]) hC hK (c_L_low l g (yy >>> ((nI 8) &&& 31)) (nI 302) (by decide)) L_L_L_low (⟨⟨Nat.le_of_ble_eq_true rfl, Nat.le_of_ble_eq_true rfl⟩, ⟨rfl, rfl⟩, ⟨Nat.le_of_ble_eq_true rfl, Nat.le_of_ble_eq_true rfl⟩⟩) (trivial) rfl hl.1 rfl (Nat.le_of_ble_eq_true rfl) dL_acts_142) ?_
      refine k_callMI0 (k_goV (rest := []) hC hK (c_X4_setStroke l g x a M f n (v_low (yy >>> ((nI 8) &&& 31)) (nI 302))) L_L_X4_setStroke (⟨⟨Nat.le_of_ble_eq_true rfl, Nat.le_of_ble_eq_true rfl⟩, ⟨rfl, rfl⟩, ⟨Nat.le_of_ble_eq_true rfl, Nat.le_of_ble_eq_true rfl⟩⟩) (hX.recv hK) (hX) rfl hl.1 rfl (Nat.le_of_ble_eq_true rfl) dL_acts_145) hS ((fun _ c => Or.inl (Or.inl c))) (fun r_ H_15 locs_16 hq_17 hz_ hk_19 hS_18 => ?_)
      obtain ⟨e_20, hX_21⟩ := hq_17
      refine W.widen (k := 3) (n := 46) (by omega) (by omega) ?_
      exact k_iretM hC hr hlk hS_18 dL_acts_148 (⟨_, _, hX_21, hG.put hn4 (by decide) (fun c _ h => h.u3 (iv_of c (by decide) (by decide))), by rw [e_20]; exact ac_put hn4 (by decide) (by have := hG.1.1.2.2.2.1.1; omega)⟩)
    · subst zj
      refine lv_tableIn (off := 121) (tgt := 149) hx hb dL_acts_28 (by decide) (by decide) rfl (by decide) ?_
      refine lv_aload_n hx hb dL_acts_149 rfl (lvG hl rfl) ?_
      refine lv_bipush (v := nI 99) hx hb dL_acts_150 (by decide) ?_
      refine lv_iload_n hx hb dL_acts_152 rfl (lvG hl rfl) ?_
      refine lv_bipush (v := nI 8) hx hb dL_acts_153 (by decide) ?_
      refine lv_ishr hx hb dL_acts_155 ?_
      refine lv_sipush (v := nI 1903) hx hb dL_acts_156 (by decide) ?_
      refine k_callPI (k_goS (rest := [.int (nI 99), .ref (x 0)]) hC hK (c_L_low l g (yy >>> ((nI 8) &&& 31)) (nI 1903) (by decide)) L_L_L_low (⟨⟨Nat.le_of_ble_eq_true rfl, Nat.le_of_ble_eq_true rfl⟩, ⟨rfl, rfl⟩, ⟨Nat.le_of_ble_eq_true rfl, Nat.le_of_ble_eq_true rfl⟩⟩) (trivial) rfl hl.1 rfl (Nat.le_of_ble_eq_true rfl) dL_acts_159) ?_
      refine lv_iadd hx hb dL_acts_162 ?_
      refine k_callMI0 (k_goV (rest := []) hC hK (c_X4_setBoilerPressure l g x a M f n ((nI 99) + (v_low (yy >>> ((nI 8) &&& 31)) (nI 1903)))) L_L_X4_setBoilerPressure (⟨⟨Nat.le_of_ble_eq_true rfl, Nat.le_of_ble_eq_true rfl⟩, ⟨rfl, rfl⟩, ⟨Nat.le_of_ble_eq_true rfl, Nat.le_of_ble_eq_true rfl⟩⟩) (hX.recv hK) (hX) rfl hl.1 rfl (Nat.le_of_ble_eq_true rfl) dL_acts_163) hS ((fun _ c => Or.inl (Or.inl c))) (fun r_ H_22 locs_23 hq_24 hz_ hk_26 hS_25 => ?_)
      obtain ⟨e_27, hX_28⟩ := hq_24
      refine W.widen (k := 3) (n := 46) (by omega) (by omega) ?_
      exact k_iretM hC hr hlk hS_25 dL_acts_166 (⟨_, _, hX_28, hG.put hn4 (by decide) (fun c _ h => h.u4 (iv_of c (by decide) (by decide))), by rw [e_27]; exact ac_put hn4 (by decide) (by have := hG.1.1.2.2.2.2.1.1; omega)⟩)
    · subst zj
      refine lv_tableIn (off := 139) (tgt := 167) hx hb dL_acts_28 (by decide) (by decide) rfl (by decide) ?_
      refine lv_aload_n hx hb dL_acts_167 rfl (lvG hl rfl) ?_
      refine lv_bipush (v := nI 9) hx hb dL_acts_168 (by decide) ?_
      refine lv_iload_n hx hb dL_acts_170 rfl (lvG hl rfl) ?_
      refine lv_bipush (v := nI 8) hx hb dL_acts_171 (by decide) ?_
      refine lv_ishr hx hb dL_acts_173 ?_
      refine lv_bipush (v := nI 92) hx hb dL_acts_174 (by decide) ?_
      refine k_callPI (k_goS (rest := [.int (nI 9), .ref (x 0)]) hC hK (c_L_low l g (yy >>> ((nI 8) &&& 31)) (nI 92) (by decide)) L_L_L_low (⟨⟨Nat.le_of_ble_eq_true rfl, Nat.le_of_ble_eq_true rfl⟩, ⟨rfl, rfl⟩, ⟨Nat.le_of_ble_eq_true rfl, Nat.le_of_ble_eq_true rfl⟩⟩) (trivial) rfl hl.1 rfl (Nat.le_of_ble_eq_true rfl) dL_acts_176) ?_
      refine lv_iadd hx hb dL_acts_179 ?_
      refine k_callMI0 (k_goV (rest := []) hC hK (c_X4_setBackPressure l g x a M f n ((nI 9) + (v_low (yy >>> ((nI 8) &&& 31)) (nI 92)))) L_L_X4_setBackPressure (⟨⟨Nat.le_of_ble_eq_true rfl, Nat.le_of_ble_eq_true rfl⟩, ⟨rfl, rfl⟩, ⟨Nat.le_of_ble_eq_true rfl, Nat.le_of_ble_eq_true rfl⟩⟩) (hX.recv hK) (hX) rfl hl.1 rfl (Nat.le_of_ble_eq_true rfl) dL_acts_180) hS ((fun _ c => Or.inl (Or.inl c))) (fun r_ H_29 locs_30 hq_31 hz_ hk_33 hS_32 => ?_)
      obtain ⟨e_34, hX_35⟩ := hq_31
      refine W.widen (k := 3) (n := 46) (by omega) (by omega) ?_
      exact k_iretM hC hr hlk hS_32 dL_acts_183 (⟨_, _, hX_35, hG.put hn4 (by decide) (fun c _ h => h.u5 (iv_of c (by decide) (by decide))), by rw [e_34]; exact ac_put hn4 (by decide) (by have := hG.1.1.2.2.2.2.2.1.1; omega)⟩)
    · subst zj
      refine lv_tableIn (off := 156) (tgt := 184) hx hb dL_acts_28 (by decide) (by decide) rfl (by decide) ?_
      refine lv_aload_n hx hb dL_acts_184 rfl (lvG hl rfl) ?_
      refine lv_iload_n hx hb dL_acts_185 rfl (lvG hl rfl) ?_
      refine lv_bipush (v := nI 8) hx hb dL_acts_186 (by decide) ?_
      refine lv_ishr hx hb dL_acts_188 ?_
      refine lv_bipush (v := nI 102) hx hb dL_acts_189 (by decide) ?_
      refine k_callPI (k_goS (rest := [.ref (x 0)]) hC hK (c_L_low l g (yy >>> ((nI 8) &&& 31)) (nI 102) (by decide)) L_L_L_low (⟨⟨Nat.le_of_ble_eq_true rfl, Nat.le_of_ble_eq_true rfl⟩, ⟨rfl, rfl⟩, ⟨Nat.le_of_ble_eq_true rfl, Nat.le_of_ble_eq_true rfl⟩⟩) (trivial) rfl hl.1 rfl (Nat.le_of_ble_eq_true rfl) dL_acts_191) ?_
      refine lv_iload_n hx hb dL_acts_194 rfl (lvG hl rfl) ?_
      refine lv_bipush (v := nI 15) hx hb dL_acts_195 (by decide) ?_
      refine lv_ishr hx hb dL_acts_197 ?_
      refine lv_bipush (v := nI 52) hx hb dL_acts_198 (by decide) ?_
      refine k_callPI (k_goS (rest := [.int (v_low (yy >>> ((nI 8) &&& 31)) (nI 102)), .ref (x 0)]) hC hK (c_L_low l g (yy >>> ((nI 15) &&& 31)) (nI 52) (by decide)) L_L_L_low (⟨⟨Nat.le_of_ble_eq_true rfl, Nat.le_of_ble_eq_true rfl⟩, ⟨rfl, rfl⟩, ⟨Nat.le_of_ble_eq_true rfl, Nat.le_of_ble_eq_true rfl⟩⟩) (trivial) rfl hl.1 rfl (Nat.le_of_ble_eq_true rfl) dL_acts_200) ?_
      refine k_callMI0 (k_goV (rest := []) hC hK (c_X4_setFinding l g x a M f n (v_low (yy >>> ((nI 8) &&& 31)) (nI 102)) (v_low (yy >>> ((nI 15) &&& 31)) (nI 52))) L_L_X4_setFinding (⟨⟨Nat.le_of_ble_eq_true rfl, Nat.le_of_ble_eq_true rfl⟩, ⟨rfl, rfl⟩, ⟨Nat.le_of_ble_eq_true rfl, Nat.le_of_ble_eq_true rfl⟩⟩) (hX.recv hK) (hX) rfl hl.1 rfl (Nat.le_of_ble_eq_true rfl) dL_acts_203) hS ((fun _ c => Or.inl (Or.inl c))) (fun r_ H_36 locs_37 hq_38 hz_ hk_40 hS_39 => ?_)
      obtain ⟨e_41, hX_42⟩ := hq_38
      refine W.widen (k := 3) (n := 46) (by omega) (by omega) ?_
      exact k_iretM hC hr hlk hS_39 dL_acts_206 (⟨_, _, hX_42, hG.se hn4, by rw [e_41]; exact ac_se hn4 hG.1.1⟩)
    · subst zj
      refine lv_tableIn (off := 179) (tgt := 207) hx hb dL_acts_28 (by decide) (by decide) rfl (by decide) ?_
      refine lv_aload_n hx hb dL_acts_207 rfl (lvG hl rfl) ?_
      refine lv_iload_n hx hb dL_acts_208 rfl (lvG hl rfl) ?_
      refine lv_iload_n hx hb dL_acts_209 rfl (lvG hl rfl) ?_
      refine lv_bipush (v := nI 6) hx hb dL_acts_210 (by decide) ?_
      refine lv_ishr hx hb dL_acts_212 ?_
      refine lv_bipush (v := nI 7) hx hb dL_acts_213 (by decide) ?_
      refine k_callPI (k_goS (rest := [.int (en), .ref (x 0)]) hC hK (c_L_low l g (yy >>> ((nI 6) &&& 31)) (nI 7) (by decide)) L_L_L_low (⟨⟨Nat.le_of_ble_eq_true rfl, Nat.le_of_ble_eq_true rfl⟩, ⟨rfl, rfl⟩, ⟨Nat.le_of_ble_eq_true rfl, Nat.le_of_ble_eq_true rfl⟩⟩) (trivial) rfl hl.1 rfl (Nat.le_of_ble_eq_true rfl) dL_acts_215) ?_
      refine lv_iload_n hx hb dL_acts_218 rfl (lvG hl rfl) ?_
      refine lv_bipush (v := nI 9) hx hb dL_acts_219 (by decide) ?_
      refine lv_ishr hx hb dL_acts_221 ?_
      refine lv_bipush (v := nI 20) hx hb dL_acts_222 (by decide) ?_
      refine k_callPI (k_goS (rest := [.int (v_low (yy >>> ((nI 6) &&& 31)) (nI 7)), .int (en), .ref (x 0)]) hC hK (c_L_low l g (yy >>> ((nI 9) &&& 31)) (nI 20) (by decide)) L_L_L_low (⟨⟨Nat.le_of_ble_eq_true rfl, Nat.le_of_ble_eq_true rfl⟩, ⟨rfl, rfl⟩, ⟨Nat.le_of_ble_eq_true rfl, Nat.le_of_ble_eq_true rfl⟩⟩) (trivial) rfl hl.1 rfl (Nat.le_of_ble_eq_true rfl) dL_acts_224) ?_
      refine lv_iload_n hx hb dL_acts_227 rfl (lvG hl rfl) ?_
      refine lv_bipush (v := nI 14) hx hb dL_acts_228 (by decide) ?_
      refine lv_ishr hx hb dL_acts_230 ?_
      refine lv_bipush (v := nI 22) hx hb dL_acts_231 (by decide) ?_
      refine k_callPI (k_goS (rest := [.int (v_low (yy >>> ((nI 9) &&& 31)) (nI 20)), .int (v_low (yy >>> ((nI 6) &&& 31)) (nI 7)), .int (en), .ref (x 0)]) hC hK (c_L_low l g (yy >>> ((nI 14) &&& 31)) (nI 22) (by decide)) L_L_L_low (⟨⟨Nat.le_of_ble_eq_true rfl, Nat.le_of_ble_eq_true rfl⟩, ⟨rfl, rfl⟩, ⟨Nat.le_of_ble_eq_true rfl, Nat.le_of_ble_eq_true rfl⟩⟩) (trivial) rfl hl.1 rfl (Nat.le_of_ble_eq_true rfl) dL_acts_233) ?_
      refine lv_iload_n hx hb dL_acts_236 rfl (lvG hl rfl) ?_
      refine lv_bipush (v := nI 18) hx hb dL_acts_237 (by decide) ?_
      refine lv_ishr hx hb dL_acts_239 ?_
      refine lv_bipush (v := nI 21) hx hb dL_acts_240 (by decide) ?_
      refine k_callPI (k_goS (rest := [.int (v_low (yy >>> ((nI 14) &&& 31)) (nI 22)), .int (v_low (yy >>> ((nI 9) &&& 31)) (nI 20)), .int (v_low (yy >>> ((nI 6) &&& 31)) (nI 7)), .int (en), .ref (x 0)]) hC hK (c_L_low l g (yy >>> ((nI 18) &&& 31)) (nI 21) (by decide)) L_L_L_low (⟨⟨Nat.le_of_ble_eq_true rfl, Nat.le_of_ble_eq_true rfl⟩, ⟨rfl, rfl⟩, ⟨Nat.le_of_ble_eq_true rfl, Nat.le_of_ble_eq_true rfl⟩⟩) (trivial) rfl hl.1 rfl (Nat.le_of_ble_eq_true rfl) dL_acts_242) ?_
      refine k_callMI0 (k_goV (rest := []) hC hK (c_X4_setValves l g x a M f n en (v_low (yy >>> ((nI 6) &&& 31)) (nI 7)) (v_low (yy >>> ((nI 9) &&& 31)) (nI 20)) (v_low (yy >>> ((nI 14) &&& 31)) (nI 22)) (v_low (yy >>> ((nI 18) &&& 31)) (nI 21))) L_L_X4_setValves (⟨⟨Nat.le_of_ble_eq_true rfl, Nat.le_of_ble_eq_true rfl⟩, ⟨rfl, rfl⟩, ⟨Nat.le_of_ble_eq_true rfl, Nat.le_of_ble_eq_true rfl⟩⟩) (hX.recv hK) (hX) rfl hl.1 rfl (Nat.le_of_ble_eq_true rfl) dL_acts_245) hS ((fun _ c => Or.inl (Or.inl c))) (fun r_ H_43 locs_44 hq_45 hz_ hk_47 hS_46 => ?_)
      obtain ⟨e_48, hX_49⟩ := hq_45
      refine W.widen (k := 3) (n := 46) (by omega) (by omega) ?_
      exact k_iretM hC hr hlk hS_46 dL_acts_248 (⟨_, _, hX_49, hG.sv hn4, by rw [e_48]; exact ac_sv hn4⟩)
    · subst zj
      refine lv_tableIn (off := 221) (tgt := 249) hx hb dL_acts_28 (by decide) (by decide) rfl (by decide) ?_
      refine lv_aload_n hx hb dL_acts_249 rfl (lvG hl rfl) ?_
      refine lv_iload_n hx hb dL_acts_250 rfl (lvG hl rfl) ?_
      refine lv_iload_n hx hb dL_acts_251 rfl (lvG hl rfl) ?_
      refine lv_bipush (v := nI 8) hx hb dL_acts_252 (by decide) ?_
      refine lv_ishr hx hb dL_acts_254 ?_
      refine lv_sipush (v := nI 602) hx hb dL_acts_255 (by decide) ?_
      refine k_callPI (k_goS (rest := [.int (en), .ref (x 0)]) hC hK (c_L_low l g (yy >>> ((nI 8) &&& 31)) (nI 602) (by decide)) L_L_L_low (⟨⟨Nat.le_of_ble_eq_true rfl, Nat.le_of_ble_eq_true rfl⟩, ⟨rfl, rfl⟩, ⟨Nat.le_of_ble_eq_true rfl, Nat.le_of_ble_eq_true rfl⟩⟩) (trivial) rfl hl.1 rfl (Nat.le_of_ble_eq_true rfl) dL_acts_258) ?_
      refine k_callMI0 (k_goV (rest := []) hC hK (c_X4_beginCard l g x a M f n en (v_low (yy >>> ((nI 8) &&& 31)) (nI 602))) L_L_X4_beginCard (⟨⟨Nat.le_of_ble_eq_true rfl, Nat.le_of_ble_eq_true rfl⟩, ⟨rfl, rfl⟩, ⟨Nat.le_of_ble_eq_true rfl, Nat.le_of_ble_eq_true rfl⟩⟩) (hX.recv hK) (hX) rfl hl.1 rfl (Nat.le_of_ble_eq_true rfl) dL_acts_261) hS ((fun _ c => Or.inl (Or.inl c))) (fun r_ H_50 locs_51 hq_52 hz_ hk_54 hS_53 => ?_)
      obtain ⟨e_55, hX_56⟩ := hq_52
      refine W.widen (k := 3) (n := 46) (by omega) (by omega) ?_
      exact k_iretM hC hr hlk hS_53 dL_acts_264 (⟨_, _, hX_56, hG.bc hn4, by rw [e_55]; exact ac_bc hn4 hX.b16⟩)
    · subst zj
      refine lv_tableIn (off := 237) (tgt := 265) hx hb dL_acts_28 (by decide) (by decide) rfl (by decide) ?_
      refine lv_aload_n hx hb dL_acts_265 rfl (lvG hl rfl) ?_
      refine lv_iload_n hx hb dL_acts_266 rfl (lvG hl rfl) ?_
      refine lv_bipush (v := nI 6) hx hb dL_acts_267 (by decide) ?_
      refine lv_ishr hx hb dL_acts_269 ?_
      refine lv_iconst (v := nI 1) hx hb dL_acts_270 (by decide) ?_
      refine lv_iand hx hb dL_acts_271 ?_
      refine lv_iload_n hx hb dL_acts_272 rfl (lvG hl rfl) ?_
      refine lv_bipush (v := nI 8) hx hb dL_acts_273 (by decide) ?_
      refine lv_ishr hx hb dL_acts_275 ?_
      refine lv_bipush (v := nI 22) hx hb dL_acts_276 (by decide) ?_
      refine k_callPI (k_goS (rest := [.int ((yy >>> ((nI 6) &&& 31)) &&& (nI 1)), .ref (x 0)]) hC hK (c_L_low l g (yy >>> ((nI 8) &&& 31)) (nI 22) (by decide)) L_L_L_low (⟨⟨Nat.le_of_ble_eq_true rfl, Nat.le_of_ble_eq_true rfl⟩, ⟨rfl, rfl⟩, ⟨Nat.le_of_ble_eq_true rfl, Nat.le_of_ble_eq_true rfl⟩⟩) (trivial) rfl hl.1 rfl (Nat.le_of_ble_eq_true rfl) dL_acts_278) ?_
      refine lv_iload_n hx hb dL_acts_281 rfl (lvG hl rfl) ?_
      refine lv_bipush (v := nI 13) hx hb dL_acts_282 (by decide) ?_
      refine lv_ishr hx hb dL_acts_284 ?_
      refine lv_sipush (v := nI 5002) hx hb dL_acts_285 (by decide) ?_
      refine k_callPI (k_goS (rest := [.int (v_low (yy >>> ((nI 8) &&& 31)) (nI 22)), .int ((yy >>> ((nI 6) &&& 31)) &&& (nI 1)), .ref (x 0)]) hC hK (c_L_low l g (yy >>> ((nI 13) &&& 31)) (nI 5002) (by decide)) L_L_L_low (⟨⟨Nat.le_of_ble_eq_true rfl, Nat.le_of_ble_eq_true rfl⟩, ⟨rfl, rfl⟩, ⟨Nat.le_of_ble_eq_true rfl, Nat.le_of_ble_eq_true rfl⟩⟩) (trivial) rfl hl.1 rfl (Nat.le_of_ble_eq_true rfl) dL_acts_288) ?_
      refine k_callMI0 (k_goV (rest := []) hC hK (c_X4_setPoint l g x a M f n ((yy >>> ((nI 6) &&& 31)) &&& (nI 1)) (v_low (yy >>> ((nI 8) &&& 31)) (nI 22)) (v_low (yy >>> ((nI 13) &&& 31)) (nI 5002)) (fun k hk => (hG.1.2.2.1.2.2 k hk).1)) L_L_X4_setPoint (⟨⟨Nat.le_of_ble_eq_true rfl, Nat.le_of_ble_eq_true rfl⟩, ⟨rfl, rfl⟩, ⟨Nat.le_of_ble_eq_true rfl, Nat.le_of_ble_eq_true rfl⟩⟩) (hX.recv hK) (hX) rfl hl.1 rfl (Nat.le_of_ble_eq_true rfl) dL_acts_291) hS ((fun _ c => Or.inl (Or.inl c))) (fun r_ H_57 locs_58 hq_59 hz_ hk_61 hS_60 => ?_)
      obtain ⟨e_62, hX_63⟩ := hq_59
      refine W.widen (k := 3) (n := 46) (by omega) (by omega) ?_
      exact k_iretM hC hr hlk hS_60 dL_acts_294 (⟨_, _, hX_63, hG.spt hn4, by rw [e_62]; exact ac_sp hn4⟩)
    · subst zj
      refine lv_tableIn (off := 237) (tgt := 265) hx hb dL_acts_28 (by decide) (by decide) rfl (by decide) ?_
      refine lv_aload_n hx hb dL_acts_265 rfl (lvG hl rfl) ?_
      refine lv_iload_n hx hb dL_acts_266 rfl (lvG hl rfl) ?_
      refine lv_bipush (v := nI 6) hx hb dL_acts_267 (by decide) ?_
      refine lv_ishr hx hb dL_acts_269 ?_
      refine lv_iconst (v := nI 1) hx hb dL_acts_270 (by decide) ?_
      refine lv_iand hx hb dL_acts_271 ?_
      refine lv_iload_n hx hb dL_acts_272 rfl (lvG hl rfl) ?_
      refine lv_bipush (v := nI 8) hx hb dL_acts_273 (by decide) ?_
      refine lv_ishr hx hb dL_acts_275 ?_
      refine lv_bipush (v := nI 22) hx hb dL_acts_276 (by decide) ?_
      refine k_callPI (k_goS (rest := [.int ((yy >>> ((nI 6) &&& 31)) &&& (nI 1)), .ref (x 0)]) hC hK (c_L_low l g (yy >>> ((nI 8) &&& 31)) (nI 22) (by decide)) L_L_L_low (⟨⟨Nat.le_of_ble_eq_true rfl, Nat.le_of_ble_eq_true rfl⟩, ⟨rfl, rfl⟩, ⟨Nat.le_of_ble_eq_true rfl, Nat.le_of_ble_eq_true rfl⟩⟩) (trivial) rfl hl.1 rfl (Nat.le_of_ble_eq_true rfl) dL_acts_278) ?_
      refine lv_iload_n hx hb dL_acts_281 rfl (lvG hl rfl) ?_
      refine lv_bipush (v := nI 13) hx hb dL_acts_282 (by decide) ?_
      refine lv_ishr hx hb dL_acts_284 ?_
      refine lv_sipush (v := nI 5002) hx hb dL_acts_285 (by decide) ?_
      refine k_callPI (k_goS (rest := [.int (v_low (yy >>> ((nI 8) &&& 31)) (nI 22)), .int ((yy >>> ((nI 6) &&& 31)) &&& (nI 1)), .ref (x 0)]) hC hK (c_L_low l g (yy >>> ((nI 13) &&& 31)) (nI 5002) (by decide)) L_L_L_low (⟨⟨Nat.le_of_ble_eq_true rfl, Nat.le_of_ble_eq_true rfl⟩, ⟨rfl, rfl⟩, ⟨Nat.le_of_ble_eq_true rfl, Nat.le_of_ble_eq_true rfl⟩⟩) (trivial) rfl hl.1 rfl (Nat.le_of_ble_eq_true rfl) dL_acts_288) ?_
      refine k_callMI0 (k_goV (rest := []) hC hK (c_X4_setPoint l g x a M f n ((yy >>> ((nI 6) &&& 31)) &&& (nI 1)) (v_low (yy >>> ((nI 8) &&& 31)) (nI 22)) (v_low (yy >>> ((nI 13) &&& 31)) (nI 5002)) (fun k hk => (hG.1.2.2.1.2.2 k hk).1)) L_L_X4_setPoint (⟨⟨Nat.le_of_ble_eq_true rfl, Nat.le_of_ble_eq_true rfl⟩, ⟨rfl, rfl⟩, ⟨Nat.le_of_ble_eq_true rfl, Nat.le_of_ble_eq_true rfl⟩⟩) (hX.recv hK) (hX) rfl hl.1 rfl (Nat.le_of_ble_eq_true rfl) dL_acts_291) hS ((fun _ c => Or.inl (Or.inl c))) (fun r_ H_64 locs_65 hq_66 hz_ hk_68 hS_67 => ?_)
      obtain ⟨e_69, hX_70⟩ := hq_66
      refine W.widen (k := 3) (n := 46) (by omega) (by omega) ?_
      exact k_iretM hC hr hlk hS_67 dL_acts_294 (⟨_, _, hX_70, hG.spt hn4, by rw [e_69]; exact ac_sp hn4⟩)
    · subst zj
      refine lv_tableIn (off := 267) (tgt := 295) hx hb dL_acts_28 (by decide) (by decide) rfl (by decide) ?_
      refine lv_aload_n hx hb dL_acts_295 rfl (lvG hl rfl) ?_
      refine k_callMI (k_goV (rest := []) hC hK (c_X4_finishCard l g x a M f n cn (hc) (hcn) (fun k hk => hG.1.2.2.1.2.2 k hk) (sz) (hMU)) L_L_X4_finishCard (⟨⟨Nat.le_of_ble_eq_true rfl, Nat.le_of_ble_eq_true rfl⟩, ⟨rfl, rfl⟩, ⟨Nat.le_of_ble_eq_true rfl, Nat.le_of_ble_eq_true rfl⟩⟩) (hX.recv hK) (⟨hP.1, hX⟩) rfl hl.1 rfl (Nat.le_of_ble_eq_true rfl) dL_acts_296) hS ((fun _ c => c.elim (fun c => Or.inl (Or.inl c)) Or.inr)) (fun r_ H_71 locs_72 hq_73 hz_ hk_75 hS_74 => ?_)
      obtain ⟨e_76, hX_77⟩ := hq_73
      refine W.widen (k := 3) (n := 46) (by omega) (by omega) ?_
      exact k_iretM hC hr hlk hS_74 dL_acts_299 (⟨_, _, hX_77, hG.fc hn4 hc hcn, by rw [e_76]; exact ac_fc hn4 hcn⟩)
    · subst zj
      refine lv_tableIn (off := 272) (tgt := 300) hx hb dL_acts_28 (by decide) (by decide) rfl (by decide) ?_
      refine lv_aload_n hx hb dL_acts_300 rfl (lvG hl rfl) ?_
      refine lv_iload_n hx hb dL_acts_301 rfl (lvG hl rfl) ?_
      refine lv_iload_n hx hb dL_acts_302 rfl (lvG hl rfl) ?_
      refine lv_bipush (v := nI 8) hx hb dL_acts_303 (by decide) ?_
      refine lv_ishr hx hb dL_acts_305 ?_
      refine lv_sipush (v := nI 602) hx hb dL_acts_306 (by decide) ?_
      refine k_callPI (k_goS (rest := [.int (en), .ref (x 0)]) hC hK (c_L_low l g (yy >>> ((nI 8) &&& 31)) (nI 602) (by decide)) L_L_L_low (⟨⟨Nat.le_of_ble_eq_true rfl, Nat.le_of_ble_eq_true rfl⟩, ⟨rfl, rfl⟩, ⟨Nat.le_of_ble_eq_true rfl, Nat.le_of_ble_eq_true rfl⟩⟩) (trivial) rfl hl.1 rfl (Nat.le_of_ble_eq_true rfl) dL_acts_309) ?_
      refine lv_iload_n hx hb dL_acts_312 rfl (lvG hl rfl) ?_
      refine lv_bipush (v := nI 18) hx hb dL_acts_313 (by decide) ?_
      refine lv_ishr hx hb dL_acts_315 ?_
      refine lv_bipush (v := nI 8) hx hb dL_acts_316 (by decide) ?_
      refine k_callPI (k_goS (rest := [.int (v_low (yy >>> ((nI 8) &&& 31)) (nI 602)), .int (en), .ref (x 0)]) hC hK (c_L_low l g (yy >>> ((nI 18) &&& 31)) (nI 8) (by decide)) L_L_L_low (⟨⟨Nat.le_of_ble_eq_true rfl, Nat.le_of_ble_eq_true rfl⟩, ⟨rfl, rfl⟩, ⟨Nat.le_of_ble_eq_true rfl, Nat.le_of_ble_eq_true rfl⟩⟩) (trivial) rfl hl.1 rfl (Nat.le_of_ble_eq_true rfl) dL_acts_318) ?_
      refine lv_iconst (v := nI 4) hx hb dL_acts_321 (by decide) ?_
      refine lv_isub hx hb dL_acts_322 ?_
      refine lv_iload_n hx hb dL_acts_323 rfl (lvG hl rfl) ?_
      refine lv_bipush (v := nI 21) hx hb dL_acts_324 (by decide) ?_
      refine lv_ishr hx hb dL_acts_326 ?_
      refine lv_bipush (v := nI 42) hx hb dL_acts_327 (by decide) ?_
      refine k_callPI (k_goS (rest := [.int ((v_low (yy >>> ((nI 18) &&& 31)) (nI 8)) - (nI 4)), .int (v_low (yy >>> ((nI 8) &&& 31)) (nI 602)), .int (en), .ref (x 0)]) hC hK (c_L_low l g (yy >>> ((nI 21) &&& 31)) (nI 42) (by decide)) L_L_L_low (⟨⟨Nat.le_of_ble_eq_true rfl, Nat.le_of_ble_eq_true rfl⟩, ⟨rfl, rfl⟩, ⟨Nat.le_of_ble_eq_true rfl, Nat.le_of_ble_eq_true rfl⟩⟩) (trivial) rfl hl.1 rfl (Nat.le_of_ble_eq_true rfl) dL_acts_329) ?_
      refine lv_bipush (v := nI 20) hx hb dL_acts_332 (by decide) ?_
      refine lv_isub hx hb dL_acts_334 ?_
      refine k_callMI (k_goV (rest := []) hC hK (c_X4_addIdealCard l g x a M f n cn (hc) (hcn) en (v_low (yy >>> ((nI 8) &&& 31)) (nI 602)) ((v_low (yy >>> ((nI 18) &&& 31)) (nI 8)) - (nI 4)) ((v_low (yy >>> ((nI 21) &&& 31)) (nI 42)) - (nI 20)) (sz) (hMU)) L_L_X4_addIdealCard (⟨⟨Nat.le_of_ble_eq_true rfl, Nat.le_of_ble_eq_true rfl⟩, ⟨rfl, rfl⟩, ⟨Nat.le_of_ble_eq_true rfl, Nat.le_of_ble_eq_true rfl⟩⟩) (hX.recv hK) (⟨hP.1, hX⟩) rfl hl.1 rfl (Nat.le_of_ble_eq_true rfl) dL_acts_335) hS ((fun _ c => c)) (fun r_ H_78 locs_79 hq_80 hz_ hk_82 hS_81 => ?_)
      obtain ⟨e_83, hX_84⟩ := hq_80
      refine W.widen (k := 3) (n := 46) (by omega) (by omega) ?_
      exact k_iretM hC hr hlk hS_81 dL_acts_338 (⟨_, _, hX_84, hG.aik hn4 hc hcn, by rw [e_83]; exact ac_ai hn4 hcn⟩)
    · subst zj
      refine lv_tableIn (off := 272) (tgt := 300) hx hb dL_acts_28 (by decide) (by decide) rfl (by decide) ?_
      refine lv_aload_n hx hb dL_acts_300 rfl (lvG hl rfl) ?_
      refine lv_iload_n hx hb dL_acts_301 rfl (lvG hl rfl) ?_
      refine lv_iload_n hx hb dL_acts_302 rfl (lvG hl rfl) ?_
      refine lv_bipush (v := nI 8) hx hb dL_acts_303 (by decide) ?_
      refine lv_ishr hx hb dL_acts_305 ?_
      refine lv_sipush (v := nI 602) hx hb dL_acts_306 (by decide) ?_
      refine k_callPI (k_goS (rest := [.int (en), .ref (x 0)]) hC hK (c_L_low l g (yy >>> ((nI 8) &&& 31)) (nI 602) (by decide)) L_L_L_low (⟨⟨Nat.le_of_ble_eq_true rfl, Nat.le_of_ble_eq_true rfl⟩, ⟨rfl, rfl⟩, ⟨Nat.le_of_ble_eq_true rfl, Nat.le_of_ble_eq_true rfl⟩⟩) (trivial) rfl hl.1 rfl (Nat.le_of_ble_eq_true rfl) dL_acts_309) ?_
      refine lv_iload_n hx hb dL_acts_312 rfl (lvG hl rfl) ?_
      refine lv_bipush (v := nI 18) hx hb dL_acts_313 (by decide) ?_
      refine lv_ishr hx hb dL_acts_315 ?_
      refine lv_bipush (v := nI 8) hx hb dL_acts_316 (by decide) ?_
      refine k_callPI (k_goS (rest := [.int (v_low (yy >>> ((nI 8) &&& 31)) (nI 602)), .int (en), .ref (x 0)]) hC hK (c_L_low l g (yy >>> ((nI 18) &&& 31)) (nI 8) (by decide)) L_L_L_low (⟨⟨Nat.le_of_ble_eq_true rfl, Nat.le_of_ble_eq_true rfl⟩, ⟨rfl, rfl⟩, ⟨Nat.le_of_ble_eq_true rfl, Nat.le_of_ble_eq_true rfl⟩⟩) (trivial) rfl hl.1 rfl (Nat.le_of_ble_eq_true rfl) dL_acts_318) ?_
      refine lv_iconst (v := nI 4) hx hb dL_acts_321 (by decide) ?_
      refine lv_isub hx hb dL_acts_322 ?_
      refine lv_iload_n hx hb dL_acts_323 rfl (lvG hl rfl) ?_
      refine lv_bipush (v := nI 21) hx hb dL_acts_324 (by decide) ?_
      refine lv_ishr hx hb dL_acts_326 ?_
      refine lv_bipush (v := nI 42) hx hb dL_acts_327 (by decide) ?_
      refine k_callPI (k_goS (rest := [.int ((v_low (yy >>> ((nI 18) &&& 31)) (nI 8)) - (nI 4)), .int (v_low (yy >>> ((nI 8) &&& 31)) (nI 602)), .int (en), .ref (x 0)]) hC hK (c_L_low l g (yy >>> ((nI 21) &&& 31)) (nI 42) (by decide)) L_L_L_low (⟨⟨Nat.le_of_ble_eq_true rfl, Nat.le_of_ble_eq_true rfl⟩, ⟨rfl, rfl⟩, ⟨Nat.le_of_ble_eq_true rfl, Nat.le_of_ble_eq_true rfl⟩⟩) (trivial) rfl hl.1 rfl (Nat.le_of_ble_eq_true rfl) dL_acts_329) ?_
      refine lv_bipush (v := nI 20) hx hb dL_acts_332 (by decide) ?_
      refine lv_isub hx hb dL_acts_334 ?_
      refine k_callMI (k_goV (rest := []) hC hK (c_X4_addIdealCard l g x a M f n cn (hc) (hcn) en (v_low (yy >>> ((nI 8) &&& 31)) (nI 602)) ((v_low (yy >>> ((nI 18) &&& 31)) (nI 8)) - (nI 4)) ((v_low (yy >>> ((nI 21) &&& 31)) (nI 42)) - (nI 20)) (sz) (hMU)) L_L_X4_addIdealCard (⟨⟨Nat.le_of_ble_eq_true rfl, Nat.le_of_ble_eq_true rfl⟩, ⟨rfl, rfl⟩, ⟨Nat.le_of_ble_eq_true rfl, Nat.le_of_ble_eq_true rfl⟩⟩) (hX.recv hK) (⟨hP.1, hX⟩) rfl hl.1 rfl (Nat.le_of_ble_eq_true rfl) dL_acts_335) hS ((fun _ c => c)) (fun r_ H_85 locs_86 hq_87 hz_ hk_89 hS_88 => ?_)
      obtain ⟨e_90, hX_91⟩ := hq_87
      refine W.widen (k := 3) (n := 46) (by omega) (by omega) ?_
      exact k_iretM hC hr hlk hS_88 dL_acts_338 (⟨_, _, hX_91, hG.aik hn4 hc hcn, by rw [e_90]; exact ac_ai hn4 hcn⟩)
    · subst zj
      refine lv_tableIn (off := 272) (tgt := 300) hx hb dL_acts_28 (by decide) (by decide) rfl (by decide) ?_
      refine lv_aload_n hx hb dL_acts_300 rfl (lvG hl rfl) ?_
      refine lv_iload_n hx hb dL_acts_301 rfl (lvG hl rfl) ?_
      refine lv_iload_n hx hb dL_acts_302 rfl (lvG hl rfl) ?_
      refine lv_bipush (v := nI 8) hx hb dL_acts_303 (by decide) ?_
      refine lv_ishr hx hb dL_acts_305 ?_
      refine lv_sipush (v := nI 602) hx hb dL_acts_306 (by decide) ?_
      refine k_callPI (k_goS (rest := [.int (en), .ref (x 0)]) hC hK (c_L_low l g (yy >>> ((nI 8) &&& 31)) (nI 602) (by decide)) L_L_L_low (⟨⟨Nat.le_of_ble_eq_true rfl, Nat.le_of_ble_eq_true rfl⟩, ⟨rfl, rfl⟩, ⟨Nat.le_of_ble_eq_true rfl, Nat.le_of_ble_eq_true rfl⟩⟩) (trivial) rfl hl.1 rfl (Nat.le_of_ble_eq_true rfl) dL_acts_309) ?_
      refine lv_iload_n hx hb dL_acts_312 rfl (lvG hl rfl) ?_
      refine lv_bipush (v := nI 18) hx hb dL_acts_313 (by decide) ?_
      refine lv_ishr hx hb dL_acts_315 ?_
      refine lv_bipush (v := nI 8) hx hb dL_acts_316 (by decide) ?_
      refine k_callPI (k_goS (rest := [.int (v_low (yy >>> ((nI 8) &&& 31)) (nI 602)), .int (en), .ref (x 0)]) hC hK (c_L_low l g (yy >>> ((nI 18) &&& 31)) (nI 8) (by decide)) L_L_L_low (⟨⟨Nat.le_of_ble_eq_true rfl, Nat.le_of_ble_eq_true rfl⟩, ⟨rfl, rfl⟩, ⟨Nat.le_of_ble_eq_true rfl, Nat.le_of_ble_eq_true rfl⟩⟩) (trivial) rfl hl.1 rfl (Nat.le_of_ble_eq_true rfl) dL_acts_318) ?_
      refine lv_iconst (v := nI 4) hx hb dL_acts_321 (by decide) ?_
      refine lv_isub hx hb dL_acts_322 ?_
      refine lv_iload_n hx hb dL_acts_323 rfl (lvG hl rfl) ?_
      refine lv_bipush (v := nI 21) hx hb dL_acts_324 (by decide) ?_
      refine lv_ishr hx hb dL_acts_326 ?_
      refine lv_bipush (v := nI 42) hx hb dL_acts_327 (by decide) ?_
      refine k_callPI (k_goS (rest := [.int ((v_low (yy >>> ((nI 18) &&& 31)) (nI 8)) - (nI 4)), .int (v_low (yy >>> ((nI 8) &&& 31)) (nI 602)), .int (en), .ref (x 0)]) hC hK (c_L_low l g (yy >>> ((nI 21) &&& 31)) (nI 42) (by decide)) L_L_L_low (⟨⟨Nat.le_of_ble_eq_true rfl, Nat.le_of_ble_eq_true rfl⟩, ⟨rfl, rfl⟩, ⟨Nat.le_of_ble_eq_true rfl, Nat.le_of_ble_eq_true rfl⟩⟩) (trivial) rfl hl.1 rfl (Nat.le_of_ble_eq_true rfl) dL_acts_329) ?_
      refine lv_bipush (v := nI 20) hx hb dL_acts_332 (by decide) ?_
      refine lv_isub hx hb dL_acts_334 ?_
      refine k_callMI (k_goV (rest := []) hC hK (c_X4_addIdealCard l g x a M f n cn (hc) (hcn) en (v_low (yy >>> ((nI 8) &&& 31)) (nI 602)) ((v_low (yy >>> ((nI 18) &&& 31)) (nI 8)) - (nI 4)) ((v_low (yy >>> ((nI 21) &&& 31)) (nI 42)) - (nI 20)) (sz) (hMU)) L_L_X4_addIdealCard (⟨⟨Nat.le_of_ble_eq_true rfl, Nat.le_of_ble_eq_true rfl⟩, ⟨rfl, rfl⟩, ⟨Nat.le_of_ble_eq_true rfl, Nat.le_of_ble_eq_true rfl⟩⟩) (hX.recv hK) (⟨hP.1, hX⟩) rfl hl.1 rfl (Nat.le_of_ble_eq_true rfl) dL_acts_335) hS ((fun _ c => c)) (fun r_ H_92 locs_93 hq_94 hz_ hk_96 hS_95 => ?_)
      obtain ⟨e_97, hX_98⟩ := hq_94
      refine W.widen (k := 3) (n := 46) (by omega) (by omega) ?_
      exact k_iretM hC hr hlk hS_95 dL_acts_338 (⟨_, _, hX_98, hG.aik hn4 hc hcn, by rw [e_97]; exact ac_ai hn4 hcn⟩)
    · subst zj
      refine lv_tableIn (off := 311) (tgt := 339) hx hb dL_acts_28 (by decide) (by decide) rfl (by decide) ?_
      refine lv_aload_n hx hb dL_acts_339 rfl (lvG hl rfl) ?_
      refine lv_iload_n hx hb dL_acts_340 rfl (lvG hl rfl) ?_
      refine lv_bipush (v := nI 8) hx hb dL_acts_341 (by decide) ?_
      refine lv_ishr hx hb dL_acts_343 ?_
      refine lv_iconst (v := nI 1) hx hb dL_acts_344 (by decide) ?_
      refine lv_aload_n hx hb dL_acts_345 rfl (lvG hl rfl) ?_
      obtain ⟨rq_99, hB_100, hT_101, hbk_102⟩ := hX.q hc hQ.1
      refine k_callPI (k_goV (rest := [.int (nI 1), .int (yy >>> ((nI 8) &&& 31)), .ref (x 0)]) hC hK (w_q_cardCount l g x a n f cn rq_99 hQ) L_L_X4_cardCount (⟨⟨Nat.le_of_ble_eq_true rfl, Nat.le_of_ble_eq_true rfl⟩, ⟨rfl, rfl⟩, ⟨Nat.le_of_ble_eq_true rfl, Nat.le_of_ble_eq_true rfl⟩⟩) (hX.recv hK) (hB_100) rfl hl.1 rfl (Nat.le_of_ble_eq_true rfl) dL_acts_346) ?_
      refine n_iadd hC dL_acts_349 ?_
      refine k_callPI (k_goS (rest := [.ref (x 0)]) hC hK (c_L_low l g (yy >>> ((nI 8) &&& 31)) (nI (1 + cn)) (fun q => by have := (nI_eq (a := 1 + cn) (b := 0) (by omega) (by decide)).mp q; omega)) L_L_L_low (⟨⟨Nat.le_of_ble_eq_true rfl, Nat.le_of_ble_eq_true rfl⟩, ⟨rfl, rfl⟩, ⟨Nat.le_of_ble_eq_true rfl, Nat.le_of_ble_eq_true rfl⟩⟩) (trivial) rfl hl.1 rfl (Nat.le_of_ble_eq_true rfl) dL_acts_350) ?_
      refine k_callMI0 (k_goV (rest := []) hC hK (c_X4_removeCard l g x a M f n cn (hc) (hcn) (v_low (yy >>> ((nI 8) &&& 31)) (nI (1 + cn)))) L_L_X4_removeCard (⟨⟨Nat.le_of_ble_eq_true rfl, Nat.le_of_ble_eq_true rfl⟩, ⟨rfl, rfl⟩, ⟨Nat.le_of_ble_eq_true rfl, Nat.le_of_ble_eq_true rfl⟩⟩) (hX.recv hK) (hX) rfl hl.1 rfl (Nat.le_of_ble_eq_true rfl) dL_acts_353) hS ((fun _ c => Or.inl (Or.inl c))) (fun r_ H_103 locs_104 hq_105 hz_ hk_107 hS_106 => ?_)
      obtain ⟨e_108, hX_109⟩ := hq_105
      refine W.widen (k := 3) (n := 46) (by omega) (by omega) ?_
      exact k_iretM hC hr hlk hS_106 dL_acts_356 (⟨_, _, hX_109, hG.rc hn4 hc hcn, by rw [e_108]; exact ac_rc hn4 hc hcn⟩)
    · subst zj
      refine lv_tableOut (tgt := 357) hx hb dL_acts_28 (by decide) (by decide) ?_
      refine lv_aload_n hx hb dL_acts_357 rfl (lvG hl rfl) ?_
      refine lv_iload_n hx hb dL_acts_358 rfl (lvG hl rfl) ?_
      refine lv_iload_n hx hb dL_acts_359 rfl (lvG hl rfl) ?_
      refine lv_bipush (v := nI 8) hx hb dL_acts_360 (by decide) ?_
      refine lv_ishr hx hb dL_acts_362 ?_
      refine lv_bipush (v := nI 102) hx hb dL_acts_363 (by decide) ?_
      refine k_callPI (k_goS (rest := [.int (en), .ref (x 0)]) hC hK (c_L_low l g (yy >>> ((nI 8) &&& 31)) (nI 102) (by decide)) L_L_L_low (⟨⟨Nat.le_of_ble_eq_true rfl, Nat.le_of_ble_eq_true rfl⟩, ⟨rfl, rfl⟩, ⟨Nat.le_of_ble_eq_true rfl, Nat.le_of_ble_eq_true rfl⟩⟩) (trivial) rfl hl.1 rfl (Nat.le_of_ble_eq_true rfl) dL_acts_365) ?_
      refine k_callMI0 (k_goV (rest := []) hC hK (c_X4_removeOutliers l g x a M f n cn (hc) (hcn) en (v_low (yy >>> ((nI 8) &&& 31)) (nI 102))) L_L_X4_removeOutliers (⟨⟨Nat.le_of_ble_eq_true rfl, Nat.le_of_ble_eq_true rfl⟩, ⟨rfl, rfl⟩, ⟨Nat.le_of_ble_eq_true rfl, Nat.le_of_ble_eq_true rfl⟩⟩) (hX.recv hK) (hX) rfl hl.1 rfl (Nat.le_of_ble_eq_true rfl) dL_acts_368) hS ((fun _ c => Or.inl c)) (fun r_ H_110 locs_111 hq_112 hz_ hk_114 hS_113 => ?_)
      obtain ⟨e_115, hX_116⟩ := hq_112
      refine W.widen (k := 3) (n := 46) (by omega) (by omega) ?_
      exact k_iretM hC hr hlk hS_113 dL_acts_371 (⟨_, _, hX_116, hG.ro hn4 hc hcn, by rw [e_115]; exact ac_ro hn4 hG.1 hc hcn⟩)
  refine z_if_ne (tgt := 17) hC dL_acts_10 (by decide) (fun zc10 => ?_) (fun zc10 => ?_)
  · refine lv_iconst (v := nI 2) hx hb dL_acts_17 (by decide) ?_
    exact jn_18 2 (by decide) ls hl
  · refine lv_iconst (v := nI 3) hx hb dL_acts_13 (by decide) ?_
    refine lv_goto (tgt := 18) hx hb dL_acts_14 (by decide) ?_
    exact jn_18 3 (by decide) ls hl
