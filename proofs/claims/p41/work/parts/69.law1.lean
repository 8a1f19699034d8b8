theorem L_L_L_cell : LnkS RL 146 yL_cell cL_cell 2 (some .int) 2 := ⟨w_409, w_410, w_24, w_411, ⟨by decide +kernel, by decide +kernel⟩, by decide +kernel⟩
theorem L_L_L_all : LnkS RL 150 yL_all cL_all 5 (some .long) 1 := ⟨w_416, w_417, w_24, w_418, ⟨by decide +kernel, by decide +kernel⟩, by decide +kernel⟩
theorem L_L_L_acts : LnkS RL 154 yL_acts cL_acts 3 (some .int) 2 := ⟨w_563, w_564, w_24, w_565, ⟨by decide +kernel, by decide +kernel⟩, by decide +kernel⟩
theorem L_L_X4_undo : LnkV RL 159 yX4_undo cX4_undo 1 (some .int) 0 := ⟨w_405, w_406, w_407, w_25, w_408, ⟨by decide +kernel, by decide +kernel⟩, by decide +kernel⟩
theorem L_L_L_areMeans : LnkS RL 162 yL_areMeans cL_areMeans 11 (some .boolean) 1 := ⟨w_616, w_617, w_24, w_618, ⟨by decide +kernel, by decide +kernel⟩, by decide +kernel⟩
theorem L_L_L_isSound : LnkS RL 166 yL_isSound cL_isSound 14 (some .boolean) 3 := ⟨w_522, w_523, w_24, w_524, ⟨by decide +kernel, by decide +kernel⟩, by decide +kernel⟩
set_option maxHeartbeats 4000000 in
set_option maxRecDepth 100000 in
theorem law_21 {p : Program} {l : Launch} {e : Env} {s : State} {m : MethodId} {below : List Frame} {meth : Method} {c : Code} {H : Heap} {locs : List Loc} {cells slots : Nat} {b L : Nat} {xs : Nat → Int32} {ls : Array Slot} {g : kG} {x a : Nat → Nat} {M : Nat → Prop} {top n : Nat} {f : Nat → Int32} {Q : State → Prop} {zk : Nat} {zz : Int32}  (hC : CallFix p m c cL_law 8 s #[Value.ref b] lw_good RL) (hK : KK g s) (hXs : va_X b L xs s s.heap) (hbl : b < s.heap.size) (hL : L ≤ 260) (hLB : LB x M s.heap.size top) (hJ : LJS g x a M top f n H) (hS : va_S (fun z => s.heap.size ≤ z) s.heap H locs) (hcl : cells + 3 ≤ 600000) (hsl : slots + 46 ≤ 7302250) (hzk : zk ≤ 1) (h61 : f 61 = nI zk) (hl : lv_has ls 8 [(3, .int (nI zk)), (2, .int (zz)), (1, .ref (x 0)), (0, .ref b)])
    (kk : ∀ (F : Nat → Int32) (N : Nat) (H2 : Heap) (locs2 : List Loc) (ls2 : Array Slot), LJS g x a M top F N H2 → PTS zk F 0 → va_S (fun z => s.heap.size ≤ z) s.heap H2 locs2 → lv_has ls2 8 [(4, .int (nI 0)), (3, .int (nI zk)), (2, .int (zz)), (1, .ref (x 0)), (0, .ref b)] → W p l e room_1 s m #[Value.ref b] below meth c H2 locs2 cells slots Q (F0 m 51 ls2 [])) : W p l e room_1 s m #[Value.ref b] below meth c H locs cells slots Q (F0 m 21 ls []) := by
  have hx := hC.1
  have hb := hC.2.1
  have hml := hC.2.2.1
  have hown := hC.2.2.2.1
  have hts := hC.2.2.2.2
  obtain ⟨hX, hG, htop⟩ := hJ
  have hn4 := hX.1
  obtain ⟨j1, hj1, ej1⟩ := low_in (zz >>> ((nI zk) &&& 31)) (k := 2) (by decide) (by decide)
  obtain ⟨j2, hj2, ej2⟩ := low_in (zz >>> ((nI (4 + 3 * zk)) &&& 31)) (k := 600) (by decide) (by decide)
  refine lv_aload_n hx hb dL_law_21 rfl (lvG hl rfl) ?_
  refine lv_iload_n hx hb dL_law_22 rfl (lvG hl rfl) ?_
  refine lv_iload_n hx hb dL_law_23 rfl (lvG hl rfl) ?_
  refine lv_ishr hx hb dL_law_24 ?_
  refine lv_iconst (v := nI 2) hx hb dL_law_25 (by decide) ?_
  refine k_callPI (k_goS (rest := [.ref (x 0)]) hC hK (c_L_low l g (zz >>> ((nI zk) &&& 31)) (nI 2) (by decide)) L_L_L_low (⟨⟨Nat.le_of_ble_eq_true rfl, Nat.le_of_ble_eq_true rfl⟩, ⟨rfl, rfl⟩, ⟨(by show _ ≤ 600000; omega), (by show _ ≤ 7302250; omega)⟩⟩) (trivial) rfl hl.1 rfl (Nat.le_of_ble_eq_true rfl) dL_law_26) ?_
  rw [ej1]
  refine lv_iconst (v := nI 1) hx hb dL_law_29 (by decide) ?_
  refine lv_iload_n hx hb dL_law_30 rfl (lvG hl rfl) ?_
  refine lv_iconst (v := nI 4) hx hb dL_law_31 (by decide) ?_
  refine lv_iconst (v := nI 3) hx hb dL_law_32 (by decide) ?_
  refine lv_iload_n hx hb dL_law_33 rfl (lvG hl rfl) ?_
  refine n_imul hC dL_law_34 ?_
  refine n_iadd hC dL_law_35 ?_
  refine lv_ishr hx hb dL_law_36 ?_
  refine lv_sipush (v := nI 600) hx hb dL_law_37 (by decide) ?_
  refine k_callPI (k_goS (rest := [.int (nI 1), .int (nI j1), .ref (x 0)]) hC hK (c_L_low l g (zz >>> ((nI (4 + (3 * zk))) &&& 31)) (nI 600) (by decide)) L_L_L_low (⟨⟨Nat.le_of_ble_eq_true rfl, Nat.le_of_ble_eq_true rfl⟩, ⟨rfl, rfl⟩, ⟨(by show _ ≤ 600000; omega), (by show _ ≤ 7302250; omega)⟩⟩) (trivial) rfl hl.1 rfl (Nat.le_of_ble_eq_true rfl) dL_law_40) ?_
  rw [ej2]
  refine n_iadd hC dL_law_43 ?_
  refine k_callMI0 (k_goV (rest := []) hC hK (c_X4_beginCard l g x a M f n (nI j1) (nI (1 + j2))) L_L_X4_beginCard (⟨⟨Nat.le_of_ble_eq_true rfl, Nat.le_of_ble_eq_true rfl⟩, ⟨rfl, rfl⟩, ⟨(by show _ ≤ 600000; omega), (by show _ ≤ 7302250; omega)⟩⟩) (hX.recv hK) (hX) rfl hl.1 rfl (Nat.le_of_ble_eq_true rfl) dL_law_44) hS (fun z h => (hLB z (Or.inl h)).1) (fun r_ H_1 locs_2 hq_3 hz_ hk_5 hS_4 => ?_)
  obtain ⟨e_6, hX_7⟩ := hq_3
  have htop_8 := Nat.le_trans htop hz_
  refine lv_pop hx hb dL_law_47 rfl ?_
  refine lv_iconst (v := nI 0) hx hb dL_law_48 (by decide) ?_
  refine lv_istore (lv' := [(4, .int (nI 0)), (3, .int (nI zk)), (2, .int (zz)), (1, .ref (x 0)), (0, .ref b)]) hx hb dL_law_49 hl (by decide) rfl (fun ls hl => ?_)
  exact kk _ _ _ _ _ ⟨hX_7, hG.bc hn4, htop_8⟩ (bcv_f hj1 hj2 h61) hS_4 (lv_sub hl [0, 1, 2, 3, 4] rfl)
set_option maxHeartbeats 4000000 in
set_option maxRecDepth 100000 in
theorem law_58 {p : Program} {l : Launch} {e : Env} {s : State} {m : MethodId} {below : List Frame} {meth : Method} {c : Code} {H : Heap} {locs : List Loc} {cells slots : Nat} {b L : Nat} {xs : Nat → Int32} {ls : Array Slot} {g : kG} {x a : Nat → Nat} {M : Nat → Prop} {top n : Nat} {f : Nat → Int32} {Q : State → Prop} {zk zp : Nat} {zz : Int32}  (hC : CallFix p m c cL_law 8 s #[Value.ref b] lw_good RL) (hK : KK g s) (hXs : va_X b L xs s s.heap) (hbl : b < s.heap.size) (hL : L ≤ 260) (hLB : LB x M s.heap.size top) (hJ : LJS g x a M top f n H) (hS : va_S (fun z => s.heap.size ≤ z) s.heap H locs) (hcl : cells + 3 ≤ 600000) (hsl : slots + 46 ≤ 7302250) (hzk : zk ≤ 1) (hzp : zp < 6) (hT : PTS zk f zp) (hl : lv_has ls 8 [(4, .int (nI zp)), (3, .int (nI zk)), (2, .int (zz)), (1, .ref (x 0)), (0, .ref b)])
    (kk : ∀ (F : Nat → Int32) (N : Nat) (H2 : Heap) (locs2 : List Loc) (ls2 : Array Slot), LJS g x a M top F N H2 → PTS zk F (zp + 1) → va_S (fun z => s.heap.size ≤ z) s.heap H2 locs2 → lv_has ls2 8 [(4, .int (nI (zp + 1))), (3, .int (nI zk)), (2, .int (zz)), (1, .ref (x 0)), (0, .ref b)] → W p l e room_1 s m #[Value.ref b] below meth c H2 locs2 cells slots Q (F0 m 51 ls2 [])) : W p l e room_1 s m #[Value.ref b] below meth c H locs cells slots Q (F0 m 58 ls []) := by
  have hx := hC.1
  have hb := hC.2.1
  have hml := hC.2.2.1
  have hown := hC.2.2.2.1
  have hts := hC.2.2.2.2
  obtain ⟨hX, hG, htop⟩ := hJ
  have hn4 := hX.1
  obtain ⟨j3, hj3, ej3⟩ := low_in (v_cel L xs (30 + 6 * zk + zp)) (k := 21) (by decide) (by decide)
  obtain ⟨j4, hj4, ej4⟩ := low_in ((v_cel L xs (30 + 6 * zk + zp)) >>> ((nI 5) &&& 31)) (k := 3000) (by decide) (by decide)
  refine lv_aload_n hx hb dL_law_58 rfl (lvG hl rfl) ?_
  refine lv_iload hx hb dL_law_59 (lvG hl rfl) ?_
  refine lv_iconst (v := nI 1) hx hb dL_law_61 (by decide) ?_
  refine lv_iand hx hb dL_law_62 ?_
  rw [show nI zp &&& nI 1 = nI (zp % 2) from fa_mask zp 1]
  refine lv_aload_n hx hb dL_law_63 rfl (lvG hl rfl) ?_
  refine lv_bipush (v := nI 30) hx hb dL_law_64 (by decide) ?_
  refine lv_bipush (v := nI 6) hx hb dL_law_66 (by decide) ?_
  refine lv_iload_n hx hb dL_law_68 rfl (lvG hl rfl) ?_
  refine n_imul hC dL_law_69 ?_
  refine n_iadd hC dL_law_70 ?_
  refine lv_iload hx hb dL_law_71 (lvG hl rfl) ?_
  refine n_iadd hC dL_law_73 ?_
  refine x_cell (rest := [.int (nI (zp % 2)), .ref (x 0)]) hC hK hL (by omega) L_L_L_cell ⟨⟨Nat.le_of_ble_eq_true rfl, Nat.le_of_ble_eq_true rfl⟩, ⟨rfl, rfl⟩, ⟨(by show _ ≤ 600000; omega), (by show _ ≤ 7302250; omega)⟩⟩ hXs hbl hS hl.1 (Nat.le_of_ble_eq_true rfl) dL_law_74 ?_
  refine lv_bipush (v := nI 21) hx hb dL_law_77 (by decide) ?_
  refine k_callPI (k_goS (rest := [.int (nI (zp % 2)), .ref (x 0)]) hC hK (c_L_low l g (v_cel L xs (30 + (6 * zk) + zp)) (nI 21) (by decide)) L_L_L_low (⟨⟨Nat.le_of_ble_eq_true rfl, Nat.le_of_ble_eq_true rfl⟩, ⟨rfl, rfl⟩, ⟨(by show _ ≤ 600000; omega), (by show _ ≤ 7302250; omega)⟩⟩) (trivial) rfl hl.1 rfl (Nat.le_of_ble_eq_true rfl) dL_law_79) ?_
  rw [ej3]
  refine lv_aload_n hx hb dL_law_82 rfl (lvG hl rfl) ?_
  refine lv_bipush (v := nI 30) hx hb dL_law_83 (by decide) ?_
  refine lv_bipush (v := nI 6) hx hb dL_law_85 (by decide) ?_
  refine lv_iload_n hx hb dL_law_87 rfl (lvG hl rfl) ?_
  refine n_imul hC dL_law_88 ?_
  refine n_iadd hC dL_law_89 ?_
  refine lv_iload hx hb dL_law_90 (lvG hl rfl) ?_
  refine n_iadd hC dL_law_92 ?_
  refine x_cell (rest := [.int (nI j3), .int (nI (zp % 2)), .ref (x 0)]) hC hK hL (by omega) L_L_L_cell ⟨⟨Nat.le_of_ble_eq_true rfl, Nat.le_of_ble_eq_true rfl⟩, ⟨rfl, rfl⟩, ⟨(by show _ ≤ 600000; omega), (by show _ ≤ 7302250; omega)⟩⟩ hXs hbl hS hl.1 (Nat.le_of_ble_eq_true rfl) dL_law_93 ?_
  refine lv_iconst (v := nI 5) hx hb dL_law_96 (by decide) ?_
  refine lv_ishr hx hb dL_law_97 ?_
  refine lv_sipush (v := nI 3000) hx hb dL_law_98 (by decide) ?_
  refine k_callPI (k_goS (rest := [.int (nI j3), .int (nI (zp % 2)), .ref (x 0)]) hC hK (c_L_low l g ((v_cel L xs (30 + (6 * zk) + zp)) >>> ((nI 5) &&& 31)) (nI 3000) (by decide)) L_L_L_low (⟨⟨Nat.le_of_ble_eq_true rfl, Nat.le_of_ble_eq_true rfl⟩, ⟨rfl, rfl⟩, ⟨(by show _ ≤ 600000; omega), (by show _ ≤ 7302250; omega)⟩⟩) (trivial) rfl hl.1 rfl (Nat.le_of_ble_eq_true rfl) dL_law_101) ?_
  rw [ej4]
  refine k_callMI0 (k_goV (rest := []) hC hK (c_X4_setPoint l g x a M f n (nI (zp % 2)) (nI j3) (nI j4) (fun k hk => (hG.1.2.2.1.2.2 k hk).1)) L_L_X4_setPoint (⟨⟨Nat.le_of_ble_eq_true rfl, Nat.le_of_ble_eq_true rfl⟩, ⟨rfl, rfl⟩, ⟨(by show _ ≤ 600000; omega), (by show _ ≤ 7302250; omega)⟩⟩) (hX.recv hK) (hX) rfl hl.1 rfl (Nat.le_of_ble_eq_true rfl) dL_law_104) hS (fun z h => (hLB z (Or.inl h)).1) (fun r_ H_1 locs_2 hq_3 hz_ hk_5 hS_4 => ?_)
  obtain ⟨e_6, hX_7⟩ := hq_3
  have htop_8 := Nat.le_trans htop hz_
  refine lv_pop hx hb dL_law_107 rfl ?_
  refine n_iinc (lv' := [(4, .int (nI (zp + 1))), (3, .int (nI zk)), (2, .int (zz)), (1, .ref (x 0)), (0, .ref b)]) hC dL_law_108 hl rfl (by decide) rfl (fun ls hl => ?_)
  refine lv_goto (tgt := 51) hx hb dL_law_111 (by decide) ?_
  exact kk _ _ _ _ _ ⟨hX_7, hG.spt hn4, htop_8⟩ (sp_pts hT hj3 hj4) hS_4 (lv_sub hl [0, 1, 2, 3, 4] rfl)
set_option maxHeartbeats 4000000 in
set_option maxRecDepth 100000 in
theorem law_114 {p : Program} {l : Launch} {e : Env} {s : State} {m : MethodId} {below : List Frame} {meth : Method} {c : Code} {H : Heap} {locs : List Loc} {cells slots : Nat} {b L : Nat} {xs : Nat → Int32} {ls : Array Slot} {g : kG} {x a : Nat → Nat} {M : Nat → Prop} {top n : Nat} {f : Nat → Int32} {Q : State → Prop} {zk : Nat} {zz : Int32}  (hC : CallFix p m c cL_law 8 s #[Value.ref b] lw_good RL) (hK : KK g s) (hXs : va_X b L xs s s.heap) (hbl : b < s.heap.size) (hL : L ≤ 260) (hLB : LB x M s.heap.size top) (hJ : LJS g x a M top f n H) (hS : va_S (fun z => s.heap.size ≤ z) s.heap H locs) (hcl : cells + 3 ≤ 600000) (hsl : slots + 46 ≤ 7302250) (hzk : zk ≤ 1) (hT : PTS zk f 6) (hl : lv_has ls 8 [(3, .int (nI zk)), (2, .int (zz)), (1, .ref (x 0)), (0, .ref b)])
    (kk : ∀ (F : Nat → Int32) (N : Nat) (H2 : Heap) (locs2 : List Loc) (ls2 : Array Slot), LJS g x a M top F N H2 → F 61 = nI (zk + 1) → va_S (fun z => s.heap.size ≤ z) s.heap H2 locs2 → lv_has ls2 8 [(3, .int (nI zk)), (2, .int (zz)), (1, .ref (x 0)), (0, .ref b)] → W p l e room_1 s m #[Value.ref b] below meth c H2 locs2 (cells + 3) (slots + 46) Q (F0 m 124 ls2 [])) : W p l e room_1 s m #[Value.ref b] below meth c H locs cells slots Q (F0 m 114 ls []) := by
  have hx := hC.1
  have hb := hC.2.1
  have hml := hC.2.2.1
  have hown := hC.2.2.2.1
  have hts := hC.2.2.2.2
  obtain ⟨hX, hG, htop⟩ := hJ
  have hn4 := hX.1
  refine lv_aload_n hx hb dL_law_114 rfl (lvG hl rfl) ?_
  refine k_callMI (k_goV (rest := []) hC hK (c_X4_finishCard l g x a M f n (zk) (hT.2.1) (by omega) (fun k hk => hG.1.2.2.1.2.2 k hk) (Array.size H) (fun z h => Nat.lt_of_lt_of_le (hLB z h).2 htop)) L_L_X4_finishCard (⟨⟨Nat.le_of_ble_eq_true rfl, Nat.le_of_ble_eq_true rfl⟩, ⟨rfl, rfl⟩, ⟨(by show _ ≤ 600000; omega), (by show _ ≤ 7302250; omega)⟩⟩) (hX.recv hK) (⟨rfl, hX⟩) rfl hl.1 rfl (Nat.le_of_ble_eq_true rfl) dL_law_115) hS (fun z h => h.elim (fun h => (hLB z (Or.inl h)).1) (fun h => Nat.le_trans hS.1 h)) (fun r_ H_1 locs_2 hq_3 hz_ hk_5 hS_4 => ?_)
  obtain ⟨e_6, hX_7⟩ := hq_3
  rw [(fc_r (n := n) hT hzk).1] at e_6
  subst e_6
  have htop_8 := Nat.le_trans htop hz_
  refine lv_iload_n hx hb dL_law_118 rfl (lvG hl rfl) ?_
  refine n_icmp_eq (tgt := 124) hC dL_law_119 (by omega) (by omega) (by decide) (fun zc119 => ?_) (fun zc119 => ?_)
  · exact kk _ _ _ _ _ ⟨hX_7, hG.fc hn4 hT.2.1 (by omega), htop_8⟩ (fc_r hT hzk).2 hS_4 (lv_sub hl [0, 1, 2, 3] rfl)
  · exact absurd rfl zc119
set_option maxHeartbeats 4000000 in
set_option maxRecDepth 100000 in
theorem law_138 {p : Program} {l : Launch} {e : Env} {s : State} {m : MethodId} {below : List Frame} {meth : Method} {c : Code} {H : Heap} {locs : List Loc} {cells slots : Nat} {b L : Nat} {xs : Nat → Int32} {ls : Array Slot} {g : kG} {x a : Nat → Nat} {M : Nat → Prop} {top n : Nat} {f : Nat → Int32} {Q : State → Prop} {zt : Nat} {zz : Int32}  (hC : CallFix p m c cL_law 8 s #[Value.ref b] lw_good RL) (hK : KK g s) (hXs : va_X b L xs s s.heap) (hbl : b < s.heap.size) (hL : L ≤ 260) (hLB : LB x M s.heap.size top) (hJ : LJS g x a M top f n H) (hS : va_S (fun z => s.heap.size ≤ z) s.heap H locs) (hcl : cells + 3 ≤ 600000) (hsl : slots + 46 ≤ 7302250) (hzt : zt < 22) (hl : lv_has ls 8 [(3, .int (nI zt)), (2, .int (zz)), (1, .ref (x 0)), (0, .ref b)])
    (kk : ∀ (yy : Int32) (F : Nat → Int32) (N : Nat) (H2 : Heap) (locs2 : List Loc) (ls2 : Array Slot), LJS g x a M top F N H2 → va_S (fun z => s.heap.size ≤ z) s.heap H2 locs2 → lv_has ls2 8 [(4, .int (yy)), (3, .int (nI zt)), (2, .int (zz)), (1, .ref (x 0)), (0, .ref b)] → W p l e room_1 s m #[Value.ref b] below meth c H2 locs2 (cells + 3) (slots + 46) Q (F0 m 216 ls2 [])) : W p l e room_1 s m #[Value.ref b] below meth c H locs cells slots Q (F0 m 138 ls []) := by
  have hx := hC.1
  have hb := hC.2.1
  have hml := hC.2.2.1
  have hown := hC.2.2.2.1
  have hts := hC.2.2.2.2
  obtain ⟨hX, hG, htop⟩ := hJ
  have hn4 := hX.1
  obtain ⟨cn, hQ⟩ := hG.1.qf
  have hQt := hG.1.qt hQ.2.1 hQ.1
  refine lv_aload_n hx hb dL_law_138 rfl (lvG hl rfl) ?_
  refine lv_iconst (v := nI 1) hx hb dL_law_139 (by decide) ?_
  refine lv_iload_n hx hb dL_law_140 rfl (lvG hl rfl) ?_
  refine n_iadd hC dL_law_141 ?_
  refine x_cell (rest := []) hC hK hL (by omega) L_L_L_cell ⟨⟨Nat.le_of_ble_eq_true rfl, Nat.le_of_ble_eq_true rfl⟩, ⟨rfl, rfl⟩, ⟨(by show _ ≤ 600000; omega), (by show _ ≤ 7302250; omega)⟩⟩ hXs hbl hS hl.1 (Nat.le_of_ble_eq_true rfl) dL_law_142 ?_
  refine lv_topi (fun yy eyy => ?_)
  refine lv_istore (lv' := [(4, .int (yy)), (3, .int (nI zt)), (2, .int (zz)), (1, .ref (x 0)), (0, .ref b)]) hx hb dL_law_145 hl (by decide) rfl (fun ls hl => ?_)
  refine lv_aload_n hx hb dL_law_147 rfl (lvG hl rfl) ?_
  refine k_callML0 (k_goS (rest := []) hC hK (c_L_all l g x a M f n (tr0 f) (cn) (hQt) (fun j hj => tr_lo hj)) L_L_L_all (⟨⟨Nat.le_of_ble_eq_true rfl, Nat.le_of_ble_eq_true rfl⟩, ⟨rfl, rfl⟩, ⟨(by show _ ≤ 600000; omega), (by show _ ≤ 7302250; omega)⟩⟩) (hX) rfl hl.1 rfl (Nat.le_of_ble_eq_true rfl) dL_law_148) hS (fun z h => (hLB z (Or.inr (Or.inl h))).1) (fun r_ H_1 locs_2 hq_3 hz_ hk_5 hS_4 => ?_)
  obtain ⟨e_6, hX_7⟩ := hq_3
  subst e_6
  have htop_8 := Nat.le_trans htop hz_
  refine lv_lstore (lv' := [(5, .long (v_all (tr0 f) (cn))), (4, .int (yy)), (3, .int (nI zt)), (2, .int (zz)), (1, .ref (x 0)), (0, .ref b)]) hx hb dL_law_151 hl (by decide) rfl (fun ls hl => ?_)
  refine lv_aload_n hx hb dL_law_153 rfl (lvG hl rfl) ?_
  refine lv_iload hx hb dL_law_154 (lvG hl rfl) ?_
  refine k_callMI (k_goS (rest := []) hC hK (c_L_acts l g x a M f n (cn) (hQ.1) (hQ.2.1) (hG) (Array.size H_1) (fun z h => Nat.lt_of_lt_of_le (hLB z h).2 htop_8) yy) L_L_L_acts (⟨⟨Nat.le_of_ble_eq_true rfl, Nat.le_of_ble_eq_true rfl⟩, ⟨rfl, rfl⟩, ⟨(by show _ ≤ 600000; omega), (by show _ ≤ 7302250; omega)⟩⟩) (⟨rfl, hX_7⟩) rfl hl.1 rfl (Nat.le_of_ble_eq_true rfl) dL_law_156) hS_4 (fun z h => h.elim (fun h => (hLB z h.u).1) (fun h => Nat.le_trans hS_4.1 h)) (fun rz H_9 locs_10 hq_11 hz_ hk_13 hS_12 => ?_)
  obtain ⟨Fz, Nz, hX2, hG2, hAC2⟩ := hq_11
  have hN4 := hX2.1
  have htop_14 := Nat.le_trans htop_8 hz_
  refine lv_istore (lv' := [(7, .int (rz)), (5, .long (v_all (tr0 f) (cn))), (4, .int (yy)), (3, .int (nI zt)), (2, .int (zz)), (1, .ref (x 0)), (0, .ref b)]) hx hb dL_law_159 hl (by decide) rfl (fun ls hl => ?_)
  have jc_15 : ∀ (Hu_16 : Heap) (locsu_16 : List Loc) (hXu_16 : XW g x a M Fz Nz Hu_16) (hSu_16 : va_S (fun z => s.heap.size ≤ z) s.heap Hu_16 locsu_16) (htopu_16 : top ≤ Hu_16.size) (ls : Array Slot) (hl : lv_has ls 8 [(7, .int (rz)), (5, .long (v_all (tr0 f) (cn))), (4, .int (yy)), (3, .int (nI zt)), (2, .int (zz)), (1, .ref (x 0)), (0, .ref b)]), W p l e room_1 s m #[Value.ref b] below meth c Hu_16 locsu_16 (cells + 3) (slots + 46) Q (F0 m 180 ls []) := by
    intro Hu_16 locsu_16 hXu_16 hSu_16 htopu_16 ls hl
    refine lv_iload hx hb dL_law_180 (lvG hl rfl) ?_
    refine lv_ldc (v := (-1000000000 : Int32)) hx hb hown (hts _ w_624) dL_law_182 ?_
    refine lv_icmp_le (tgt := 216) hx hb dL_law_184 (by decide) (fun zc184 => ?_) (fun zc184 => ?_)
    · exact kk yy _ _ _ _ _ ⟨hXu_16, hG2, htopu_16⟩ hSu_16 (lv_sub hl [2, 3, 4, 5, 6] rfl)
    · refine lv_iload hx hb dL_law_187 (lvG hl rfl) ?_
      refine lv_bipush (v := nI 28) hx hb dL_law_189 (by decide) ?_
      refine lv_ishr hx hb dL_law_191 ?_
      refine lv_iconst (v := nI 3) hx hb dL_law_192 (by decide) ?_
      refine lv_iand hx hb dL_law_193 ?_
      refine z_if_ne (tgt := 216) hC dL_law_194 (by decide) (fun zc194 => ?_) (fun zc194 => ?_)
      · exact kk yy _ _ _ _ _ ⟨hXu_16, hG2, htopu_16⟩ hSu_16 (lv_sub hl [2, 3, 4, 5, 6] rfl)
      · refine lv_aload_n hx hb dL_law_197 rfl (lvG hl rfl) ?_
        refine k_callMI0 (k_goV (rest := []) hC hK (c_X4_undo l g x a M Fz Nz) L_L_X4_undo (⟨⟨Nat.le_of_ble_eq_true rfl, Nat.le_of_ble_eq_true rfl⟩, ⟨rfl, rfl⟩, ⟨(by show _ ≤ 600000; omega), (by show _ ≤ 7302250; omega)⟩⟩) (hXu_16.recv hK) (hXu_16) rfl hl.1 rfl (Nat.le_of_ble_eq_true rfl) dL_law_198) hSu_16 (fun z h => (hLB z (Or.inl h)).1) (fun r_ H_17 locs_18 hq_19 hz_ hk_21 hS_20 => ?_)
        obtain ⟨e_22, hX_23⟩ := hq_19
        obtain ⟨eu, hu⟩ := ac_und hAC2 (Int32.not_le.mp zc184)
        rw [eu] at e_22
        subst e_22
        have htop_24 := Nat.le_trans htopu_16 hz_
        refine n_if_lt (tgt := 214) hC dL_law_201 (by omega) (by decide) (fun zc201 => ?_) (fun zc201 => ?_)
        · first | exact absurd zc201 (by omega) | exact absurd rfl zc210
        · refine lv_aload_n hx hb dL_law_204 rfl (lvG hl rfl) ?_
          refine k_callML0 (k_goS (rest := []) hC hK (c_L_all l g x a M ((s_undf Fz Nz)) ((Nz - 1)) (tr0 f) (cn) (hQt) (fun j hj => (hu j hj).trans (tr_lo hj))) L_L_L_all (⟨⟨Nat.le_of_ble_eq_true rfl, Nat.le_of_ble_eq_true rfl⟩, ⟨rfl, rfl⟩, ⟨(by show _ ≤ 600000; omega), (by show _ ≤ 7302250; omega)⟩⟩) (hX_23) rfl hl.1 rfl (Nat.le_of_ble_eq_true rfl) dL_law_205) hS_20 (fun z h => (hLB z (Or.inr (Or.inl h))).1) (fun r_ H_25 locs_26 hq_27 hz_ hk_29 hS_28 => ?_)
          obtain ⟨e_30, hX_31⟩ := hq_27
          subst e_30
          have htop_32 := Nat.le_trans htop_24 hz_
          refine lv_lload hx hb dL_law_208 (lvG hl rfl) ?_
          refine j_leq (tgt := 216) hC dL_law_210 dL_law_211 (by decide) (fun zc210 => ?_) (fun zc210 => ?_)
          · exact kk yy _ _ _ _ _ ⟨hX_31, hG2.und hN4, htop_32⟩ hS_28 (lv_sub hl [2, 3, 4, 5, 6] rfl)
          · first | exact absurd zc201 (by omega) | exact absurd rfl zc210
  refine lv_iload hx hb dL_law_161 (lvG hl rfl) ?_
  refine lv_ldc (v := (-1000000000 : Int32)) hx hb hown (hts _ w_624) dL_law_163 ?_
  refine lv_icmp_ge (tgt := 180) hx hb dL_law_165 (by decide) (fun zc165 => ?_) (fun zc165 => ?_)
  · exact jc_15 _ _ hX2 hS_12 htop_14 ls (lv_sub hl [0, 1, 2, 3, 4, 5, 6] rfl)
  · refine lv_aload_n hx hb dL_law_168 rfl (lvG hl rfl) ?_
    refine k_callML0 (k_goS (rest := []) hC hK (c_L_all l g x a M Fz Nz (tr0 f) (cn) (hQt) (fun j hj => (hAC2.1 (Int32.not_le.mp zc165) j hj).trans (tr_lo hj))) L_L_L_all (⟨⟨Nat.le_of_ble_eq_true rfl, Nat.le_of_ble_eq_true rfl⟩, ⟨rfl, rfl⟩, ⟨(by show _ ≤ 600000; omega), (by show _ ≤ 7302250; omega)⟩⟩) (hX2) rfl hl.1 rfl (Nat.le_of_ble_eq_true rfl) dL_law_169) hS_12 (fun z h => (hLB z (Or.inr (Or.inl h))).1) (fun r_ H_33 locs_34 hq_35 hz_ hk_37 hS_36 => ?_)
    obtain ⟨e_38, hX_39⟩ := hq_35
    subst e_38
    have htop_40 := Nat.le_trans htop_14 hz_
    refine lv_lload hx hb dL_law_172 (lvG hl rfl) ?_
    refine j_leq (tgt := 180) hC dL_law_174 dL_law_175 (by decide) (fun zc174 => ?_) (fun zc174 => ?_)
    · exact jc_15 _ _ hX_39 hS_36 htop_40 ls (lv_sub hl [0, 1, 2, 3, 4, 5, 6] rfl)
    · exact absurd rfl zc174
set_option maxHeartbeats 4000000 in
set_option maxRecDepth 100000 in
theorem law_216 {p : Program} {l : Launch} {e : Env} {s : State} {m : MethodId} {below : List Frame} {meth : Method} {c : Code} {H : Heap} {locs : List Loc} {cells slots : Nat} {b L : Nat} {xs : Nat → Int32} {ls : Array Slot} {g : kG} {x a : Nat → Nat} {M : Nat → Prop} {top n : Nat} {f : Nat → Int32} {Q : State → Prop} {zt : Nat} {zz yy : Int32}  (hC : CallFix p m c cL_law 8 s #[Value.ref b] lw_good RL) (hK : KK g s) (hXs : va_X b L xs s s.heap) (hbl : b < s.heap.size) (hL : L ≤ 260) (hLB : LB x M s.heap.size top) (hJ : LJS g x a M top f n H) (hS : va_S (fun z => s.heap.size ≤ z) s.heap H locs) (hcl : cells + 3 ≤ 600000) (hsl : slots + 46 ≤ 7302250) (hzt : zt < 22) (hl : lv_has ls 8 [(4, .int (yy)), (3, .int (nI zt)), (2, .int (zz)), (1, .ref (x 0)), (0, .ref b)])
    (kk : ∀ (H2 : Heap) (locs2 : List Loc) (ls2 : Array Slot), LJS g x a M top f n H2 → va_S (fun z => s.heap.size ≤ z) s.heap H2 locs2 → lv_has ls2 8 [(3, .int (nI zt)), (2, .int (zz)), (1, .ref (x 0)), (0, .ref b)] → W p l e room_1 s m #[Value.ref b] below meth c H2 locs2 cells slots Q (F0 m 262 ls2 [])) : W p l e room_1 s m #[Value.ref b] below meth c H locs cells slots Q (F0 m 216 ls []) := by
  have hx := hC.1
  have hb := hC.2.1
  have hml := hC.2.2.1
  have hown := hC.2.2.2.1
  have hts := hC.2.2.2.2
  obtain ⟨hX, hG, htop⟩ := hJ
  have hn4 := hX.1
  obtain ⟨cn, hQ⟩ := hG.1.qf
  have hcn := hQ.1
  have hc := hQ.2.1
  refine lv_iload_n hx hb dL_law_216 rfl (lvG hl rfl) ?_
  refine lv_iconst (v := nI 3) hx hb dL_law_217 (by decide) ?_
  refine n_irem hC dL_law_218 (by omega) (by omega) (by omega) ?_
  refine lv_iconst (v := nI 1) hx hb dL_law_219 (by decide) ?_
  refine n_icmp_ne (tgt := 262) hC dL_law_220 (by omega) (by omega) (by decide) (fun zc220 => ?_) (fun zc220 => ?_)
  · exact kk _ _ _ ⟨hX, hG, htop⟩ hS (lv_sub hl [1, 2, 3, 4] rfl)
  · refine lv_aload_n hx hb dL_law_223 rfl (lvG hl rfl) ?_
    refine k_callMI0 (k_goS (rest := []) hC hK (c_L_areMeans l g x a M f n cn (by first | assumption | omega)) L_L_L_areMeans (⟨⟨Nat.le_of_ble_eq_true rfl, Nat.le_of_ble_eq_true rfl⟩, ⟨rfl, rfl⟩, ⟨(by show _ ≤ 600000; omega), (by show _ ≤ 7302250; omega)⟩⟩) (hX) rfl hl.1 rfl (Nat.le_of_ble_eq_true rfl) dL_law_224) hS (fun z h => (hLB z h.u).1) (fun r_ H_1 locs_2 hq_3 hz_ hk_5 hS_4 => ?_)
    obtain ⟨e_6, hX_7⟩ := hq_3
    subst e_6
    have htop_8 := Nat.le_trans htop hz_
    refine n_if_eq (tgt := 260) hC dL_law_227 (by decide) (by decide) (fun c => absurd c (by decide)) (fun _ => ?_)
    refine lv_aload_n hx hb dL_law_230 rfl (lvG hl rfl) ?_
    obtain ⟨rq_9, hB_10, hT_11, hbk_12⟩ := hX_7.q hc hQ.1
    refine k_callPI (k_goV (rest := []) hC hK (w_q_cardCount l g x a n f cn rq_9 hQ) L_L_X4_cardCount (⟨⟨Nat.le_of_ble_eq_true rfl, Nat.le_of_ble_eq_true rfl⟩, ⟨rfl, rfl⟩, ⟨(by show _ ≤ 600000; omega), (by show _ ≤ 7302250; omega)⟩⟩) (hX_7.recv hK) (hB_10) rfl hl.1 rfl (Nat.le_of_ble_eq_true rfl) dL_law_231) ?_
    refine n_if_le (tgt := 262) hC dL_law_234 (by omega) (by decide) (fun zc234 => ?_) (fun zc234 => ?_)
    · exact kk _ _ _ ⟨hX_7, hG, htop_8⟩ hS_4 (lv_sub hl [1, 2, 3, 4] rfl)
    · obtain ⟨jc, hjc, ejc⟩ := low_in (yy >>> ((nI 9) &&& 31)) (k := cn) (by omega) (by omega)
      refine lv_aload_n hx hb dL_law_237 rfl (lvG hl rfl) ?_
      refine lv_iload hx hb dL_law_238 (lvG hl rfl) ?_
      refine lv_bipush (v := nI 9) hx hb dL_law_240 (by decide) ?_
      refine lv_ishr hx hb dL_law_242 ?_
      refine lv_aload_n hx hb dL_law_243 rfl (lvG hl rfl) ?_
      refine k_callPI (k_goV (rest := [.int (yy >>> ((nI 9) &&& 31)), .ref (x 0)]) hC hK (w_q_cardCount l g x a n f cn rq_9 hQ) L_L_X4_cardCount (⟨⟨Nat.le_of_ble_eq_true rfl, Nat.le_of_ble_eq_true rfl⟩, ⟨rfl, rfl⟩, ⟨(by show _ ≤ 600000; omega), (by show _ ≤ 7302250; omega)⟩⟩) (hX_7.recv hK) (hB_10) rfl hl.1 rfl (Nat.le_of_ble_eq_true rfl) dL_law_244) ?_
      refine k_callPI (k_goS (rest := [.ref (x 0)]) hC hK (c_L_low l g (yy >>> ((nI 9) &&& 31)) (nI cn) (fun q => by have := (nI_eq (a := cn) (b := 0) (by omega) (by decide)).mp q; omega)) L_L_L_low (⟨⟨Nat.le_of_ble_eq_true rfl, Nat.le_of_ble_eq_true rfl⟩, ⟨rfl, rfl⟩, ⟨(by show _ ≤ 600000; omega), (by show _ ≤ 7302250; omega)⟩⟩) (trivial) rfl hl.1 rfl (Nat.le_of_ble_eq_true rfl) dL_law_247) ?_
      rw [ejc]
      refine lv_iload hx hb dL_law_250 (lvG hl rfl) ?_
      refine lv_iconst (v := nI 5) hx hb dL_law_252 (by decide) ?_
      refine lv_ishr hx hb dL_law_253 ?_
      refine k_callMI0 (k_goS (rest := []) hC hK (c_L_isSound l g x a M f n cn (by first | assumption | omega) jc (by first | assumption | omega) (yy >>> ((nI 5) &&& 31))) L_L_L_isSound (⟨⟨Nat.le_of_ble_eq_true rfl, Nat.le_of_ble_eq_true rfl⟩, ⟨rfl, rfl⟩, ⟨(by show _ ≤ 600000; omega), (by show _ ≤ 7302250; omega)⟩⟩) (hX_7) rfl hl.1 rfl (Nat.le_of_ble_eq_true rfl) dL_law_254) hS_4 (fun z h => (hLB z (Or.inr (Or.inl h))).1) (fun r_ H_13 locs_14 hq_15 hz_ hk_17 hS_16 => ?_)
      obtain ⟨e_18, hX_19⟩ := hq_15
      subst e_18
      have htop_20 := Nat.le_trans htop_8 hz_
      refine n_if_ne (tgt := 262) hC dL_law_257 (by decide) (by decide) (fun _ => ?_) (fun c => absurd c (by decide))
      exact kk _ _ _ ⟨hX_19, hG, htop_20⟩ hS_16 (lv_sub hl [1, 2, 3, 4] rfl)
set_option maxHeartbeats 4000000 in
set_option maxRecDepth 100000 in
theorem law_268 {p : Program} {l : Launch} {e : Env} {s : State} {m : MethodId} {below : List Frame} {meth : Method} {c : Code} {H : Heap} {locs : List Loc} {cells slots : Nat} {b L : Nat} {xs : Nat → Int32} {ls : Array Slot} {g : kG} {x a : Nat → Nat} {M : Nat → Prop} {top n : Nat} {f : Nat → Int32} {Q : State → Prop} {cn : Nat} {zz : Int32}  (hC : CallFix p m c cL_law 8 s #[Value.ref b] lw_good RL) (hK : KK g s) (hXs : va_X b L xs s s.heap) (hbl : b < s.heap.size) (hL : L ≤ 260) (hLB : LB x M s.heap.size top) (hJ : LJS g x a M top f n H) (hS : va_S (fun z => s.heap.size ≤ z) s.heap H locs) (hcl : cells + 3 ≤ 600000) (hsl : slots + 46 ≤ 7302250) (hQ : QF f cn) (hl : lv_has ls 8 [(2, .int (zz)), (1, .ref (x 0)), (0, .ref b)])
    (kk : ∀ (F : Nat → Int32) (N : Nat) (H2 : Heap) (locs2 : List Loc) (ls2 : Array Slot), LJS g x a M top F N H2 → (∀ j, j < 502 → F j = tr0 f j) → va_S (fun z => s.heap.size ≤ z) s.heap H2 locs2 → lv_has ls2 8 [(3, .long (v_all (tr0 f) cn)), (1, .ref (x 0)), (0, .ref b)] → W p l e room_1 s m #[Value.ref b] below meth c H2 locs2 (cells + 3) (slots + 46) Q (F0 m 345 ls2 [])) : W p l e room_1 s m #[Value.ref b] below meth c H locs cells slots Q (F0 m 268 ls []) := by
  have hx := hC.1
  have hb := hC.2.1
  have hml := hC.2.2.1
  have hown := hC.2.2.2.1
  have hts := hC.2.2.2.2
  obtain ⟨hX, hG, htop⟩ := hJ
  have hn4 := hX.1
  have hQt := hG.1.qt hQ.2.1 hQ.1
  have hcn := hQ.1
  have hc := hQ.2.1
  refine lv_aload_n hx hb dL_law_268 rfl (lvG hl rfl) ?_
  refine k_callML0 (k_goS (rest := []) hC hK (c_L_all l g x a M f n (tr0 f) (cn) (hQt) (fun j hj => tr_lo hj)) L_L_L_all (⟨⟨Nat.le_of_ble_eq_true rfl, Nat.le_of_ble_eq_true rfl⟩, ⟨rfl, rfl⟩, ⟨(by show _ ≤ 600000; omega), (by show _ ≤ 7302250; omega)⟩⟩) (hX) rfl hl.1 rfl (Nat.le_of_ble_eq_true rfl) dL_law_269) hS (fun z h => (hLB z (Or.inr (Or.inl h))).1) (fun r_ H_1 locs_2 hq_3 hz_ hk_5 hS_4 => ?_)
  obtain ⟨e_6, hX_7⟩ := hq_3
  subst e_6
  have htop_8 := Nat.le_trans htop hz_
  refine lv_lstore_n (lv' := [(3, .long (v_all (tr0 f) (cn))), (2, .int (zz)), (1, .ref (x 0)), (0, .ref b)]) hx hb dL_law_272 rfl hl (by decide) rfl (fun ls hl => ?_)
  obtain ⟨je, hje, eje⟩ := low_in (zz >>> ((nI 9) &&& 31)) (k := 2) (by decide) (by decide)
  have hje1 : je ≤ 1 := by omega
  refine lv_iload_n hx hb dL_law_273 rfl (lvG hl rfl) ?_
  refine lv_bipush (v := nI 9) hx hb dL_law_274 (by decide) ?_
  refine lv_ishr hx hb dL_law_276 ?_
  refine lv_iconst (v := nI 2) hx hb dL_law_277 (by decide) ?_
  refine k_callPI (k_goS (rest := []) hC hK (c_L_low l g (zz >>> ((nI 9) &&& 31)) (nI 2) (by decide)) L_L_L_low (⟨⟨Nat.le_of_ble_eq_true rfl, Nat.le_of_ble_eq_true rfl⟩, ⟨rfl, rfl⟩, ⟨(by show _ ≤ 600000; omega), (by show _ ≤ 7302250; omega)⟩⟩) (trivial) rfl hl.1 rfl (Nat.le_of_ble_eq_true rfl) dL_law_278) ?_
  rw [eje]
  refine lv_istore (lv' := [(5, .int (nI je)), (3, .long (v_all (tr0 f) (cn))), (2, .int (zz)), (1, .ref (x 0)), (0, .ref b)]) hx hb dL_law_281 hl (by decide) rfl (fun ls hl => ?_)
  by_cases h10 : cn = 10
  · refine lv_aload_n hx hb dL_law_283 rfl (lvG hl rfl) ?_
    refine lv_iload hx hb dL_law_284 (lvG hl rfl) ?_
    refine lv_bipush (v := nI 60) hx hb dL_law_286 (by decide) ?_
    refine lv_iconst (v := nI 0) hx hb dL_law_288 (by decide) ?_
    refine lv_iconst (v := nI 0) hx hb dL_law_289 (by decide) ?_
    refine k_callMI (k_goV (rest := []) hC hK (c_X4_addIdealCard l g x a M f n (cn) (hc) (hcn) (nI je) (nI 60) (nI 0) (nI 0) (Array.size H_1) (fun z h => Nat.lt_of_lt_of_le (hLB z h).2 htop_8)) L_L_X4_addIdealCard (⟨⟨Nat.le_of_ble_eq_true rfl, Nat.le_of_ble_eq_true rfl⟩, ⟨rfl, rfl⟩, ⟨(by show _ ≤ 600000; omega), (by show _ ≤ 7302250; omega)⟩⟩) (hX_7.recv hK) (⟨rfl, hX_7⟩) rfl hl.1 rfl (Nat.le_of_ble_eq_true rfl) dL_law_290) hS_4 (fun z h => h.elim (fun h => (hLB z h.u).1) (fun h => Nat.le_trans hS_4.1 h)) (fun r_ H_9 locs_10 hq_11 hz_ hk_13 hS_12 => ?_)
    obtain ⟨e_14, hX_15⟩ := hq_11
    obtain ⟨a1, a2, a3⟩ := aiv_x (n := n) hG.1 hje1 h10
    rw [a1] at e_14
    rw [a2, a3] at hX_15
    subst e_14
    have htop_16 := Nat.le_trans htop_8 hz_
    refine lv_istore (lv' := [(6, .int ((-2000000003 : Int32))), (5, .int (nI je)), (3, .long (v_all (tr0 f) (cn))), (2, .int (zz)), (1, .ref (x 0)), (0, .ref b)]) hx hb dL_law_293 hl (by decide) rfl (fun ls hl => ?_)
    refine lv_iload hx hb dL_law_295 (lvG hl rfl) ?_
    refine z_if_lt (tgt := 322) hC dL_law_297 (by decide) (fun zc297 => ?_) (fun zc297 => ?_)
    · refine lv_iload hx hb dL_law_322 (lvG hl rfl) ?_
      refine z_if_ge (tgt := 345) hC dL_law_324 (by decide) (fun zc324 => ?_) (fun zc324 => ?_)
      · exact kk _ _ _ _ _ ⟨hX_15, hG, htop_16⟩ (fun j hj => tr_lo hj) hS_12 (lv_sub hl [2, 4, 5] rfl)
      · refine lv_iload hx hb dL_law_327 (lvG hl rfl) ?_
        refine lv_ldc (v := (-2000000003 : Int32)) hx hb hown (hts _ w_625) dL_law_329 ?_
        refine lv_icmp_ne (tgt := 343) hx hb dL_law_331 (by decide) (fun zc331 => ?_) (fun zc331 => ?_)
        · first | exact absurd (ic_area hG.1 hc hcn hje1 h10) zc312 | exact absurd zc319 (by omega) | exact absurd rfl zc331 | exact absurd h10 zc340
        · refine lv_aload_n hx hb dL_law_334 rfl (lvG hl rfl) ?_
          obtain ⟨rq_17, hB_18, hT_19, hbk_20⟩ := hX_15.q hc hQ.1
          refine k_callPI (k_goV (rest := []) hC hK (w_q_cardCount l g x a n f cn rq_17 hQ) L_L_X4_cardCount (⟨⟨Nat.le_of_ble_eq_true rfl, Nat.le_of_ble_eq_true rfl⟩, ⟨rfl, rfl⟩, ⟨(by show _ ≤ 600000; omega), (by show _ ≤ 7302250; omega)⟩⟩) (hX_15.recv hK) (hB_18) rfl hl.1 rfl (Nat.le_of_ble_eq_true rfl) dL_law_335) ?_
          refine lv_bipush (v := nI 10) hx hb dL_law_338 (by decide) ?_
          refine n_icmp_eq (tgt := 345) hC dL_law_340 (by omega) (by omega) (by decide) (fun zc340 => ?_) (fun zc340 => ?_)
          · exact kk _ _ _ _ _ ⟨hX_15, hG, htop_16⟩ (fun j hj => tr_lo hj) hS_12 (lv_sub hl [2, 4, 5] rfl)
          · first | exact absurd (ic_area hG.1 hc hcn hje1 h10) zc312 | exact absurd zc319 (by omega) | exact absurd rfl zc331 | exact absurd h10 zc340
    · exact absurd (by decide) zc297
  · refine lv_aload_n hx hb dL_law_283 rfl (lvG hl rfl) ?_
    refine lv_iload hx hb dL_law_284 (lvG hl rfl) ?_
    refine lv_bipush (v := nI 60) hx hb dL_law_286 (by decide) ?_
    refine lv_iconst (v := nI 0) hx hb dL_law_288 (by decide) ?_
    refine lv_iconst (v := nI 0) hx hb dL_law_289 (by decide) ?_
    refine k_callMI (k_goV (rest := []) hC hK (c_X4_addIdealCard l g x a M f n (cn) (hc) (hcn) (nI je) (nI 60) (nI 0) (nI 0) (Array.size H_1) (fun z h => Nat.lt_of_lt_of_le (hLB z h).2 htop_8)) L_L_X4_addIdealCard (⟨⟨Nat.le_of_ble_eq_true rfl, Nat.le_of_ble_eq_true rfl⟩, ⟨rfl, rfl⟩, ⟨(by show _ ≤ 600000; omega), (by show _ ≤ 7302250; omega)⟩⟩) (hX_7.recv hK) (⟨rfl, hX_7⟩) rfl hl.1 rfl (Nat.le_of_ble_eq_true rfl) dL_law_290) hS_4 (fun z h => h.elim (fun h => (hLB z h.u).1) (fun h => Nat.le_trans hS_4.1 h)) (fun r_ H_21 locs_22 hq_23 hz_ hk_25 hS_24 => ?_)
    obtain ⟨e_26, hX_27⟩ := hq_23
    obtain ⟨a1, a2, a3⟩ := aiv_y (n := n) hG.1 hje1 h10
    rw [a1] at e_26
    rw [a2, a3] at hX_27
    subst e_26
    have hG2 : GD (k_aiU f n cn je (nI je) (nI 60) (nI 0) (nI 0)) (s_recn n) := by have h := hG.aik (en := nI je) (sp := nI 60) (sh := nI 0) (lk := nI 0) hn4 hc hcn; rw [a2, a3] at h; exact h
    have hA := ac_ai (f := f) (en := nI je) (sp := nI 60) (sh := nI 0) (lk := nI 0) hn4 hcn
    rw [a1, a2, a3] at hA
    have h61 : (k_aiU f n cn je (nI je) (nI 60) (nI 0) (nI 0)) 61 = nI (cn + 1) := by unfold k_aiU; exact ac_61
    have hQ2 : QF (k_aiU f n cn je (nI je) (nI 60) (nI 0) (nI 0)) (cn + 1) := hG2.1.qn h61 (by omega)
    have hr4 := recn_le hn4
    have hr1 := recn_pos (n := n)
    have htop_28 := Nat.le_trans htop_8 hz_
    refine lv_istore (lv' := [(6, .int (nI cn)), (5, .int (nI je)), (3, .long (v_all (tr0 f) (cn))), (2, .int (zz)), (1, .ref (x 0)), (0, .ref b)]) hx hb dL_law_293 hl (by decide) rfl (fun ls hl => ?_)
    refine lv_iload hx hb dL_law_295 (lvG hl rfl) ?_
    refine n_if_lt (tgt := 322) hC dL_law_297 (by omega) (by decide) (fun zc297 => ?_) (fun zc297 => ?_)
    · exact absurd zc297 (by omega)
    · refine lv_aload_n hx hb dL_law_300 rfl (lvG hl rfl) ?_
      refine lv_iload hx hb dL_law_301 (lvG hl rfl) ?_
      obtain ⟨rq_29, hB_30, hT_31, hbk_32⟩ := hX_27.q h61 hQ2.1
      refine k_callPI (k_goV (rest := []) hC hK (w_q_area l g x a ((s_recn n)) ((k_aiU f n cn je (nI je) (nI 60) (nI 0) (nI 0))) ((cn + 1)) rq_29 hQ2 (nI cn)) L_L_X4_area (⟨⟨Nat.le_of_ble_eq_true rfl, Nat.le_of_ble_eq_true rfl⟩, ⟨rfl, rfl⟩, ⟨(by show _ ≤ 600000; omega), (by show _ ≤ 7302250; omega)⟩⟩) (hX_27.recv hK) (hB_30) rfl hl.1 rfl (Nat.le_of_ble_eq_true rfl) dL_law_303) ?_
      refine lv_aload_n hx hb dL_law_306 rfl (lvG hl rfl) ?_
      refine lv_iload hx hb dL_law_307 (lvG hl rfl) ?_
      refine k_callMI0 (k_goV (rest := [.int (q_are ((k_aiU f n cn je (nI je) (nI 60) (nI 0) (nI 0))) (nI cn))]) hC hK (w_q_idealArea l g x a ((s_recn n)) ((k_aiU f n cn je (nI je) (nI 60) (nI 0) (nI 0))) ((cn + 1)) rq_29 hQ2 (nI je)) L_L_X4_idealArea (⟨⟨Nat.le_of_ble_eq_true rfl, Nat.le_of_ble_eq_true rfl⟩, ⟨rfl, rfl⟩, ⟨(by show _ ≤ 600000; omega), (by show _ ≤ 7302250; omega)⟩⟩) (hX_27.recv hK) (⟨hB_30, hT_31⟩) rfl hl.1 rfl (Nat.le_of_ble_eq_true rfl) dL_law_309) hS_24 ((fun z h => (hLB z (Or.inr (Or.inl h))).1)) (fun r_ H_33 locs_34 hq_35 hz_ hk_37 hS_36 => ?_)
      obtain ⟨e_38, hT_39⟩ := hq_35
      subst e_38
      have hX_40 := hbk_32 H_33 hk_37 hT_39
      obtain ⟨rq_41, hB_42, hT_43, hbk_44⟩ := hX_40.q h61 hQ2.1
      have htop_45 := Nat.le_trans htop_28 hz_
      refine lv_icmp_ne (tgt := 343) hx hb dL_law_312 (by decide) (fun zc312 => ?_) (fun zc312 => ?_)
      · first | exact absurd (ic_area hG.1 hc hcn hje1 h10) zc312 | exact absurd zc319 (by omega) | exact absurd rfl zc331 | exact absurd h10 zc340
      · refine lv_aload_n hx hb dL_law_315 rfl (lvG hl rfl) ?_
        refine k_callMI0 (k_goV (rest := []) hC hK (c_X4_undo l g x a M ((k_aiU f n cn je (nI je) (nI 60) (nI 0) (nI 0))) ((s_recn n))) L_L_X4_undo (⟨⟨Nat.le_of_ble_eq_true rfl, Nat.le_of_ble_eq_true rfl⟩, ⟨rfl, rfl⟩, ⟨(by show _ ≤ 600000; omega), (by show _ ≤ 7302250; omega)⟩⟩) (hX_40.recv hK) (hX_40) rfl hl.1 rfl (Nat.le_of_ble_eq_true rfl) dL_law_316) hS_36 (fun z h => (hLB z (Or.inl h)).1) (fun r_ H_46 locs_47 hq_48 hz_ hk_50 hS_49 => ?_)
        obtain ⟨e_51, hX_52⟩ := hq_48
        obtain ⟨eu, hu⟩ := ac_und hA (Int32.lt_iff_toInt_lt.mpr (by rw [k_m9, nI_toInt (by omega)]; omega))
        rw [eu] at e_51
        subst e_51
        have htop_53 := Nat.le_trans htop_45 hz_
        refine n_if_lt (tgt := 343) hC dL_law_319 (by omega) (by decide) (fun zc319 => ?_) (fun zc319 => ?_)
        · first | exact absurd (ic_area hG.1 hc hcn hje1 h10) zc312 | exact absurd zc319 (by omega) | exact absurd rfl zc331 | exact absurd h10 zc340
        · refine lv_iload hx hb dL_law_322 (lvG hl rfl) ?_
          refine n_if_ge (tgt := 345) hC dL_law_324 (by omega) (by decide) (fun zc324 => ?_) (fun zc324 => ?_)
          · exact kk _ _ _ _ _ ⟨hX_52, hG2.und hr4, htop_53⟩ (fun j hj => (hu j hj).trans (tr_lo hj)) hS_49 (lv_sub hl [2, 4, 5] rfl)
          · exact absurd (Nat.zero_le _) zc324
