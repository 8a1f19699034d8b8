section LAW
variable {p : Program} {l : Launch} {e : Env} {s : State} {m : MethodId} {below : List Frame} {meth : Method} {c : Code} {H : Heap} {locs : List Loc} {cells slots : Nat} {Q : State → Prop}
variable {b L i : Nat} {xs : Nat → Int32} {ls : Array Slot} {g : kG} {x a : Nat → Nat} {M : Nat → Prop} {o q top n : Nat} {f : Nat → Int32}
set_option maxHeartbeats 4000000 in
set_option maxRecDepth 100000 in
/-- cardCount -/
theorem law_13 (hC : CallFix p m c cL_law 4 s #[Value.ref b] lw_good RL) (hK : KK g s) (hXs : va_X b L xs s s.heap) (hbl : b < s.heap.size) (hL : L ≤ 3072) (hi : 6 * i + 6 ≤ L) (hc0 : LC x M o q s.heap.size top) (hJ : LJ g x a M o q top f n H) (hS : va_S (fun z => s.heap.size ≤ z) s.heap H locs) (hcl : cells + 3 ≤ 600000) (hsl : slots + 46 ≤ 7302250) (hl : lv_has ls 4 [(3, .int (nI (6 * i))), (2, .ref o), (1, .ref (x 0)), (0, .ref b)])
    (kk : ∀ (f2 : Nat → Int32) (n2 : Nat) (H2 : Heap) (locs2 : List Loc) (ls2 : Array Slot), LJ g x a M o q top f2 n2 H2 → va_S (fun z => s.heap.size ≤ z) s.heap H2 locs2 → lv_has ls2 4 [(3, .int (nI (6 * i))), (2, .ref o), (1, .ref (x 0)), (0, .ref b)] → W p l e room_1 s m #[Value.ref b] below meth c H2 locs2 (cells + 3) (slots + 46) Q (F0 m 1216 ls2 [])) : W p l e room_1 s m #[Value.ref b] below meth c H locs cells slots Q (F0 m 619 ls []) := by
  have hx := hC.1
  have hb := hC.2.1
  have hml := hC.2.2.1
  obtain ⟨hX, hR, hG, htop⟩ := hJ
  obtain ⟨⟨hGF, ⟨hV8, hV12⟩, hGT, cn, hcn, hc, hGC⟩, -⟩ := id hG
  have hn4 := hX.1
  obtain ⟨rq, hXB, hXS, hback⟩ := hX.q hc hcn
  refine lv_aload_n hx hb dL_law_619 rfl (lvG hl rfl) ?_
  refine k_callPI (k_goV (rest := []) hC hK (c_X4_cardCount l g x a n f cn rq hc hcn) L_L_X4_cardCount ⟨⟨Nat.le_of_ble_eq_true rfl, Nat.le_of_ble_eq_true rfl⟩, ⟨rfl, rfl⟩, ⟨(by show _ ≤ 600000; omega), (by show _ ≤ 7302250; omega)⟩⟩ (hX.recv hK) (hXB) rfl hl.1 rfl (Nat.le_of_ble_eq_true rfl) dL_law_620) ?_
  refine lv_aload_n hx hb dL_law_623 rfl (lvG hl rfl) ?_
  refine k_callPI (k_goV (rest := [.int (f 61)]) hC hK (c_X5_cardCount l g o q f n) L_L_X5_cardCount ⟨⟨Nat.le_of_ble_eq_true rfl, Nat.le_of_ble_eq_true rfl⟩, ⟨rfl, rfl⟩, ⟨(by show _ ≤ 600000; omega), (by show _ ≤ 7302250; omega)⟩⟩ (hR.recv hK) hR rfl hl.1 rfl (Nat.le_of_ble_eq_true rfl) dL_law_624) ?_
  refine lv_icmp_eq (tgt := 1216) hx hb dL_law_627 (by decide) (fun _ => ?_) (fun z => absurd rfl z)
  refine W.widen (k := cells + 3) (n := slots + 46) (by omega) (by omega) ?_
  exact kk f n H _ _ ⟨hX, hR, hG, htop⟩ hS hl
set_option maxHeartbeats 4000000 in
set_option maxRecDepth 100000 in
/-- end -/
theorem law_14 (hC : CallFix p m c cL_law 4 s #[Value.ref b] lw_good RL) (hK : KK g s) (hXs : va_X b L xs s s.heap) (hbl : b < s.heap.size) (hL : L ≤ 3072) (hi : 6 * i + 6 ≤ L) (hc0 : LC x M o q s.heap.size top) (hJ : LJ g x a M o q top f n H) (hS : va_S (fun z => s.heap.size ≤ z) s.heap H locs) (hcl : cells + 3 ≤ 600000) (hsl : slots + 46 ≤ 7302250) (hl : lv_has ls 4 [(3, .int (nI (6 * i))), (2, .ref o), (1, .ref (x 0)), (0, .ref b)])
    (kk : ∀ (f2 : Nat → Int32) (n2 : Nat) (H2 : Heap) (locs2 : List Loc) (ls2 : Array Slot), LJ g x a M o q top f2 n2 H2 → va_S (fun z => s.heap.size ≤ z) s.heap H2 locs2 → lv_has ls2 4 [(3, .int (nI (6 * i))), (2, .ref o), (1, .ref (x 0)), (0, .ref b)] → W p l e room_1 s m #[Value.ref b] below meth c H2 locs2 (cells + 3) (slots + 46) Q (F0 m 1216 ls2 [])) : W p l e room_1 s m #[Value.ref b] below meth c H locs cells slots Q (F0 m 632 ls []) := by
  have hx := hC.1
  have hb := hC.2.1
  have hml := hC.2.2.1
  obtain ⟨hX, hR, hG, htop⟩ := hJ
  obtain ⟨⟨hGF, ⟨hV8, hV12⟩, hGT, cn, hcn, hc, hGC⟩, -⟩ := id hG
  have hn4 := hX.1
  obtain ⟨rq, hXB, hXS, hback⟩ := hX.q hc hcn
  refine lv_aload_n hx hb dL_law_632 rfl (lvG hl rfl) ?_
  refine lv_aload_n hx hb dL_law_633 rfl (lvG hl rfl) ?_
  refine lv_iload_n hx hb dL_law_634 rfl (lvG hl rfl) ?_
  refine lv_iconst (v := nI 1) hx hb dL_law_635 (by decide) ?_
  refine n_iadd hC dL_law_636 ?_
  refine l_sld hC hXs hbl hS (show 6 * i + 1 < L by omega) hL dL_law_637 ?_
  refine k_callPI (k_goV (rest := []) hC hK (c_X4_end l g x a n f cn rq hc hcn (xs (6 * i + 1))) L_L_X4_end ⟨⟨Nat.le_of_ble_eq_true rfl, Nat.le_of_ble_eq_true rfl⟩, ⟨rfl, rfl⟩, ⟨(by show _ ≤ 600000; omega), (by show _ ≤ 7302250; omega)⟩⟩ (hX.recv hK) (hXB) rfl hl.1 rfl (Nat.le_of_ble_eq_true rfl) dL_law_638) ?_
  refine lv_aload_n hx hb dL_law_641 rfl (lvG hl rfl) ?_
  refine lv_aload_n hx hb dL_law_642 rfl (lvG hl rfl) ?_
  refine lv_iload_n hx hb dL_law_643 rfl (lvG hl rfl) ?_
  refine lv_iconst (v := nI 1) hx hb dL_law_644 (by decide) ?_
  refine n_iadd hC dL_law_645 ?_
  refine l_sld hC hXs hbl hS (show 6 * i + 1 < L by omega) hL dL_law_646 ?_
  refine k_callPI (k_goV (rest := [.int (if s_okC f (xs (6 * i + 1)) then f (62 + 44 * ((xs (6 * i + 1))).toNatClampNeg) else cINV)]) hC hK (c_X5_end l g o q f n (xs (6 * i + 1)) cn hc hcn) L_L_X5_end ⟨⟨Nat.le_of_ble_eq_true rfl, Nat.le_of_ble_eq_true rfl⟩, ⟨rfl, rfl⟩, ⟨(by show _ ≤ 600000; omega), (by show _ ≤ 7302250; omega)⟩⟩ (hR.recv hK) hR rfl hl.1 rfl (Nat.le_of_ble_eq_true rfl) dL_law_647) ?_
  refine lv_icmp_eq (tgt := 1216) hx hb dL_law_650 (by decide) (fun _ => ?_) (fun z => absurd rfl z)
  refine W.widen (k := cells + 3) (n := slots + 46) (by omega) (by omega) ?_
  exact kk f n H _ _ ⟨hX, hR, hG, htop⟩ hS hl
set_option maxHeartbeats 4000000 in
set_option maxRecDepth 100000 in
/-- speed -/
theorem law_15 (hC : CallFix p m c cL_law 4 s #[Value.ref b] lw_good RL) (hK : KK g s) (hXs : va_X b L xs s s.heap) (hbl : b < s.heap.size) (hL : L ≤ 3072) (hi : 6 * i + 6 ≤ L) (hc0 : LC x M o q s.heap.size top) (hJ : LJ g x a M o q top f n H) (hS : va_S (fun z => s.heap.size ≤ z) s.heap H locs) (hcl : cells + 3 ≤ 600000) (hsl : slots + 46 ≤ 7302250) (hl : lv_has ls 4 [(3, .int (nI (6 * i))), (2, .ref o), (1, .ref (x 0)), (0, .ref b)])
    (kk : ∀ (f2 : Nat → Int32) (n2 : Nat) (H2 : Heap) (locs2 : List Loc) (ls2 : Array Slot), LJ g x a M o q top f2 n2 H2 → va_S (fun z => s.heap.size ≤ z) s.heap H2 locs2 → lv_has ls2 4 [(3, .int (nI (6 * i))), (2, .ref o), (1, .ref (x 0)), (0, .ref b)] → W p l e room_1 s m #[Value.ref b] below meth c H2 locs2 (cells + 3) (slots + 46) Q (F0 m 1216 ls2 [])) : W p l e room_1 s m #[Value.ref b] below meth c H locs cells slots Q (F0 m 655 ls []) := by
  have hx := hC.1
  have hb := hC.2.1
  have hml := hC.2.2.1
  obtain ⟨hX, hR, hG, htop⟩ := hJ
  obtain ⟨⟨hGF, ⟨hV8, hV12⟩, hGT, cn, hcn, hc, hGC⟩, -⟩ := id hG
  have hn4 := hX.1
  obtain ⟨rq, hXB, hXS, hback⟩ := hX.q hc hcn
  refine lv_aload_n hx hb dL_law_655 rfl (lvG hl rfl) ?_
  refine lv_aload_n hx hb dL_law_656 rfl (lvG hl rfl) ?_
  refine lv_iload_n hx hb dL_law_657 rfl (lvG hl rfl) ?_
  refine lv_iconst (v := nI 1) hx hb dL_law_658 (by decide) ?_
  refine n_iadd hC dL_law_659 ?_
  refine l_sld hC hXs hbl hS (show 6 * i + 1 < L by omega) hL dL_law_660 ?_
  refine k_callPI (k_goV (rest := []) hC hK (c_X4_speed l g x a n f cn rq hc hcn (xs (6 * i + 1))) L_L_X4_speed ⟨⟨Nat.le_of_ble_eq_true rfl, Nat.le_of_ble_eq_true rfl⟩, ⟨rfl, rfl⟩, ⟨(by show _ ≤ 600000; omega), (by show _ ≤ 7302250; omega)⟩⟩ (hX.recv hK) (hXB) rfl hl.1 rfl (Nat.le_of_ble_eq_true rfl) dL_law_661) ?_
  refine lv_aload_n hx hb dL_law_664 rfl (lvG hl rfl) ?_
  refine lv_aload_n hx hb dL_law_665 rfl (lvG hl rfl) ?_
  refine lv_iload_n hx hb dL_law_666 rfl (lvG hl rfl) ?_
  refine lv_iconst (v := nI 1) hx hb dL_law_667 (by decide) ?_
  refine n_iadd hC dL_law_668 ?_
  refine l_sld hC hXs hbl hS (show 6 * i + 1 < L by omega) hL dL_law_669 ?_
  refine k_callPI (k_goV (rest := [.int (if s_okC f (xs (6 * i + 1)) then f (62 + 44 * ((xs (6 * i + 1))).toNatClampNeg + 1) else cINV)]) hC hK (c_X5_speed l g o q f n (xs (6 * i + 1)) cn hc hcn) L_L_X5_speed ⟨⟨Nat.le_of_ble_eq_true rfl, Nat.le_of_ble_eq_true rfl⟩, ⟨rfl, rfl⟩, ⟨(by show _ ≤ 600000; omega), (by show _ ≤ 7302250; omega)⟩⟩ (hR.recv hK) hR rfl hl.1 rfl (Nat.le_of_ble_eq_true rfl) dL_law_670) ?_
  refine lv_icmp_eq (tgt := 1216) hx hb dL_law_673 (by decide) (fun _ => ?_) (fun z => absurd rfl z)
  refine W.widen (k := cells + 3) (n := slots + 46) (by omega) (by omega) ?_
  exact kk f n H _ _ ⟨hX, hR, hG, htop⟩ hS hl
set_option maxHeartbeats 4000000 in
set_option maxRecDepth 100000 in
/-- pressure -/
theorem law_16 (hC : CallFix p m c cL_law 4 s #[Value.ref b] lw_good RL) (hK : KK g s) (hXs : va_X b L xs s s.heap) (hbl : b < s.heap.size) (hL : L ≤ 3072) (hi : 6 * i + 6 ≤ L) (hc0 : LC x M o q s.heap.size top) (hJ : LJ g x a M o q top f n H) (hS : va_S (fun z => s.heap.size ≤ z) s.heap H locs) (hcl : cells + 3 ≤ 600000) (hsl : slots + 46 ≤ 7302250) (hl : lv_has ls 4 [(3, .int (nI (6 * i))), (2, .ref o), (1, .ref (x 0)), (0, .ref b)])
    (kk : ∀ (f2 : Nat → Int32) (n2 : Nat) (H2 : Heap) (locs2 : List Loc) (ls2 : Array Slot), LJ g x a M o q top f2 n2 H2 → va_S (fun z => s.heap.size ≤ z) s.heap H2 locs2 → lv_has ls2 4 [(3, .int (nI (6 * i))), (2, .ref o), (1, .ref (x 0)), (0, .ref b)] → W p l e room_1 s m #[Value.ref b] below meth c H2 locs2 (cells + 3) (slots + 46) Q (F0 m 1216 ls2 [])) : W p l e room_1 s m #[Value.ref b] below meth c H locs cells slots Q (F0 m 678 ls []) := by
  have hx := hC.1
  have hb := hC.2.1
  have hml := hC.2.2.1
  obtain ⟨hX, hR, hG, htop⟩ := hJ
  obtain ⟨⟨hGF, ⟨hV8, hV12⟩, hGT, cn, hcn, hc, hGC⟩, -⟩ := id hG
  have hn4 := hX.1
  obtain ⟨rq, hXB, hXS, hback⟩ := hX.q hc hcn
  refine lv_aload_n hx hb dL_law_678 rfl (lvG hl rfl) ?_
  refine lv_aload_n hx hb dL_law_679 rfl (lvG hl rfl) ?_
  refine lv_iload_n hx hb dL_law_680 rfl (lvG hl rfl) ?_
  refine lv_iconst (v := nI 1) hx hb dL_law_681 (by decide) ?_
  refine n_iadd hC dL_law_682 ?_
  refine l_sld hC hXs hbl hS (show 6 * i + 1 < L by omega) hL dL_law_683 ?_
  refine lv_aload_n hx hb dL_law_684 rfl (lvG hl rfl) ?_
  refine lv_iload_n hx hb dL_law_685 rfl (lvG hl rfl) ?_
  refine lv_iconst (v := nI 2) hx hb dL_law_686 (by decide) ?_
  refine n_iadd hC dL_law_687 ?_
  refine l_sld hC hXs hbl hS (show 6 * i + 2 < L by omega) hL dL_law_688 ?_
  refine lv_aload_n hx hb dL_law_689 rfl (lvG hl rfl) ?_
  refine lv_iload_n hx hb dL_law_690 rfl (lvG hl rfl) ?_
  refine lv_iconst (v := nI 3) hx hb dL_law_691 (by decide) ?_
  refine n_iadd hC dL_law_692 ?_
  refine l_sld hC hXs hbl hS (show 6 * i + 3 < L by omega) hL dL_law_693 ?_
  refine k_callPI (k_goV (rest := []) hC hK (c_X4_pressure l g x a n f cn rq hc hcn (xs (6 * i + 1)) (xs (6 * i + 2)) (xs (6 * i + 3))) L_L_X4_pressure ⟨⟨Nat.le_of_ble_eq_true rfl, Nat.le_of_ble_eq_true rfl⟩, ⟨rfl, rfl⟩, ⟨(by show _ ≤ 600000; omega), (by show _ ≤ 7302250; omega)⟩⟩ (hX.recv hK) (hXB) rfl hl.1 rfl (Nat.le_of_ble_eq_true rfl) dL_law_694) ?_
  refine lv_aload_n hx hb dL_law_697 rfl (lvG hl rfl) ?_
  refine lv_aload_n hx hb dL_law_698 rfl (lvG hl rfl) ?_
  refine lv_iload_n hx hb dL_law_699 rfl (lvG hl rfl) ?_
  refine lv_iconst (v := nI 1) hx hb dL_law_700 (by decide) ?_
  refine n_iadd hC dL_law_701 ?_
  refine l_sld hC hXs hbl hS (show 6 * i + 1 < L by omega) hL dL_law_702 ?_
  refine lv_aload_n hx hb dL_law_703 rfl (lvG hl rfl) ?_
  refine lv_iload_n hx hb dL_law_704 rfl (lvG hl rfl) ?_
  refine lv_iconst (v := nI 2) hx hb dL_law_705 (by decide) ?_
  refine n_iadd hC dL_law_706 ?_
  refine l_sld hC hXs hbl hS (show 6 * i + 2 < L by omega) hL dL_law_707 ?_
  refine lv_aload_n hx hb dL_law_708 rfl (lvG hl rfl) ?_
  refine lv_iload_n hx hb dL_law_709 rfl (lvG hl rfl) ?_
  refine lv_iconst (v := nI 3) hx hb dL_law_710 (by decide) ?_
  refine n_iadd hC dL_law_711 ?_
  refine l_sld hC hXs hbl hS (show 6 * i + 3 < L by omega) hL dL_law_712 ?_
  refine k_callPI (k_goV (rest := [.int (if s_okC f (xs (6 * i + 1)) ∧ (nI 0 ≤ (xs (6 * i + 2)) ∧ (xs (6 * i + 2)) ≤ nI 1) ∧ (nI 0 ≤ (xs (6 * i + 3)) ∧ (xs (6 * i + 3)) ≤ nI 20) then s_pt f ((xs (6 * i + 1))).toNatClampNeg (21 * ((xs (6 * i + 2))).toNatClampNeg + ((xs (6 * i + 3))).toNatClampNeg) else cINV)]) hC hK (c_X5_pressure l g o q f n (xs (6 * i + 1)) (xs (6 * i + 2)) (xs (6 * i + 3)) cn hc hcn) L_L_X5_pressure ⟨⟨Nat.le_of_ble_eq_true rfl, Nat.le_of_ble_eq_true rfl⟩, ⟨rfl, rfl⟩, ⟨(by show _ ≤ 600000; omega), (by show _ ≤ 7302250; omega)⟩⟩ (hR.recv hK) hR rfl hl.1 rfl (Nat.le_of_ble_eq_true rfl) dL_law_713) ?_
  refine lv_icmp_eq (tgt := 1216) hx hb dL_law_716 (by decide) (fun _ => ?_) (fun z => absurd rfl z)
  refine W.widen (k := cells + 3) (n := slots + 46) (by omega) (by omega) ?_
  exact kk f n H _ _ ⟨hX, hR, hG, htop⟩ hS hl
set_option maxHeartbeats 4000000 in
set_option maxRecDepth 100000 in
/-- area -/
theorem law_17 (hC : CallFix p m c cL_law 4 s #[Value.ref b] lw_good RL) (hK : KK g s) (hXs : va_X b L xs s s.heap) (hbl : b < s.heap.size) (hL : L ≤ 3072) (hi : 6 * i + 6 ≤ L) (hc0 : LC x M o q s.heap.size top) (hJ : LJ g x a M o q top f n H) (hS : va_S (fun z => s.heap.size ≤ z) s.heap H locs) (hcl : cells + 3 ≤ 600000) (hsl : slots + 46 ≤ 7302250) (hl : lv_has ls 4 [(3, .int (nI (6 * i))), (2, .ref o), (1, .ref (x 0)), (0, .ref b)])
    (kk : ∀ (f2 : Nat → Int32) (n2 : Nat) (H2 : Heap) (locs2 : List Loc) (ls2 : Array Slot), LJ g x a M o q top f2 n2 H2 → va_S (fun z => s.heap.size ≤ z) s.heap H2 locs2 → lv_has ls2 4 [(3, .int (nI (6 * i))), (2, .ref o), (1, .ref (x 0)), (0, .ref b)] → W p l e room_1 s m #[Value.ref b] below meth c H2 locs2 (cells + 3) (slots + 46) Q (F0 m 1216 ls2 [])) : W p l e room_1 s m #[Value.ref b] below meth c H locs cells slots Q (F0 m 721 ls []) := by
  have hx := hC.1
  have hb := hC.2.1
  have hml := hC.2.2.1
  obtain ⟨hX, hR, hG, htop⟩ := hJ
  obtain ⟨⟨hGF, ⟨hV8, hV12⟩, hGT, cn, hcn, hc, hGC⟩, -⟩ := id hG
  have hn4 := hX.1
  obtain ⟨rq, hXB, hXS, hback⟩ := hX.q hc hcn
  refine lv_aload_n hx hb dL_law_721 rfl (lvG hl rfl) ?_
  refine lv_aload_n hx hb dL_law_722 rfl (lvG hl rfl) ?_
  refine lv_iload_n hx hb dL_law_723 rfl (lvG hl rfl) ?_
  refine lv_iconst (v := nI 1) hx hb dL_law_724 (by decide) ?_
  refine n_iadd hC dL_law_725 ?_
  refine l_sld hC hXs hbl hS (show 6 * i + 1 < L by omega) hL dL_law_726 ?_
  refine k_callPI (k_goV (rest := []) hC hK (c_X4_area l g x a n f cn rq hc hcn (xs (6 * i + 1))) L_L_X4_area ⟨⟨Nat.le_of_ble_eq_true rfl, Nat.le_of_ble_eq_true rfl⟩, ⟨rfl, rfl⟩, ⟨(by show _ ≤ 600000; omega), (by show _ ≤ 7302250; omega)⟩⟩ (hX.recv hK) (hXB) rfl hl.1 rfl (Nat.le_of_ble_eq_true rfl) dL_law_727) ?_
  refine lv_aload_n hx hb dL_law_730 rfl (lvG hl rfl) ?_
  refine lv_aload_n hx hb dL_law_731 rfl (lvG hl rfl) ?_
  refine lv_iload_n hx hb dL_law_732 rfl (lvG hl rfl) ?_
  refine lv_iconst (v := nI 1) hx hb dL_law_733 (by decide) ?_
  refine n_iadd hC dL_law_734 ?_
  refine l_sld hC hXs hbl hS (show 6 * i + 1 < L by omega) hL dL_law_735 ?_
  refine k_callPI (k_goV (rest := [.int (if s_okC f (xs (6 * i + 1)) then s_ar (s_pt f ((xs (6 * i + 1))).toNatClampNeg) 20 else cINV)]) hC hK (c_X5_area l g o q f n (xs (6 * i + 1)) cn hc hcn) L_L_X5_area ⟨⟨Nat.le_of_ble_eq_true rfl, Nat.le_of_ble_eq_true rfl⟩, ⟨rfl, rfl⟩, ⟨(by show _ ≤ 600000; omega), (by show _ ≤ 7302250; omega)⟩⟩ (hR.recv hK) hR rfl hl.1 rfl (Nat.le_of_ble_eq_true rfl) dL_law_736) ?_
  refine lv_icmp_eq (tgt := 1216) hx hb dL_law_739 (by decide) (fun _ => ?_) (fun z => absurd rfl z)
  refine W.widen (k := cells + 3) (n := slots + 46) (by omega) (by omega) ?_
  exact kk f n H _ _ ⟨hX, hR, hG, htop⟩ hS hl
set_option maxHeartbeats 4000000 in
set_option maxRecDepth 100000 in
/-- forwardArea -/
theorem law_18 (hC : CallFix p m c cL_law 4 s #[Value.ref b] lw_good RL) (hK : KK g s) (hXs : va_X b L xs s s.heap) (hbl : b < s.heap.size) (hL : L ≤ 3072) (hi : 6 * i + 6 ≤ L) (hc0 : LC x M o q s.heap.size top) (hJ : LJ g x a M o q top f n H) (hS : va_S (fun z => s.heap.size ≤ z) s.heap H locs) (hcl : cells + 3 ≤ 600000) (hsl : slots + 46 ≤ 7302250) (hl : lv_has ls 4 [(3, .int (nI (6 * i))), (2, .ref o), (1, .ref (x 0)), (0, .ref b)])
    (kk : ∀ (f2 : Nat → Int32) (n2 : Nat) (H2 : Heap) (locs2 : List Loc) (ls2 : Array Slot), LJ g x a M o q top f2 n2 H2 → va_S (fun z => s.heap.size ≤ z) s.heap H2 locs2 → lv_has ls2 4 [(3, .int (nI (6 * i))), (2, .ref o), (1, .ref (x 0)), (0, .ref b)] → W p l e room_1 s m #[Value.ref b] below meth c H2 locs2 (cells + 3) (slots + 46) Q (F0 m 1216 ls2 [])) : W p l e room_1 s m #[Value.ref b] below meth c H locs cells slots Q (F0 m 744 ls []) := by
  have hx := hC.1
  have hb := hC.2.1
  have hml := hC.2.2.1
  obtain ⟨hX, hR, hG, htop⟩ := hJ
  obtain ⟨⟨hGF, ⟨hV8, hV12⟩, hGT, cn, hcn, hc, hGC⟩, -⟩ := id hG
  have hn4 := hX.1
  obtain ⟨rq, hXB, hXS, hback⟩ := hX.q hc hcn
  refine lv_aload_n hx hb dL_law_744 rfl (lvG hl rfl) ?_
  refine lv_aload_n hx hb dL_law_745 rfl (lvG hl rfl) ?_
  refine lv_iload_n hx hb dL_law_746 rfl (lvG hl rfl) ?_
  refine lv_iconst (v := nI 1) hx hb dL_law_747 (by decide) ?_
  refine n_iadd hC dL_law_748 ?_
  refine l_sld hC hXs hbl hS (show 6 * i + 1 < L by omega) hL dL_law_749 ?_
  refine k_callPI (k_goV (rest := []) hC hK (c_X4_forwardArea l g x a n f cn rq hc hcn (xs (6 * i + 1)) (fun j hj => df_rg (hGC j hj).2.2)) L_L_X4_forwardArea ⟨⟨Nat.le_of_ble_eq_true rfl, Nat.le_of_ble_eq_true rfl⟩, ⟨rfl, rfl⟩, ⟨(by show _ ≤ 600000; omega), (by show _ ≤ 7302250; omega)⟩⟩ (hX.recv hK) (hXB) rfl hl.1 rfl (Nat.le_of_ble_eq_true rfl) dL_law_750) ?_
  refine lv_aload_n hx hb dL_law_753 rfl (lvG hl rfl) ?_
  refine lv_aload_n hx hb dL_law_754 rfl (lvG hl rfl) ?_
  refine lv_iload_n hx hb dL_law_755 rfl (lvG hl rfl) ?_
  refine lv_iconst (v := nI 1) hx hb dL_law_756 (by decide) ?_
  refine n_iadd hC dL_law_757 ?_
  refine l_sld hC hXs hbl hS (show 6 * i + 1 < L by omega) hL dL_law_758 ?_
  refine k_callPI (k_goV (rest := [.int (if s_okC f (xs (6 * i + 1)) then s_pa (s_pt f ((xs (6 * i + 1))).toNatClampNeg) True 20 else cINV)]) hC hK (c_X5_forwardArea l g o q f n (xs (6 * i + 1)) cn hc hcn (fun j hj => df_rg (hGC j hj).2.2)) L_L_X5_forwardArea ⟨⟨Nat.le_of_ble_eq_true rfl, Nat.le_of_ble_eq_true rfl⟩, ⟨rfl, rfl⟩, ⟨(by show _ ≤ 600000; omega), (by show _ ≤ 7302250; omega)⟩⟩ (hR.recv hK) hR rfl hl.1 rfl (Nat.le_of_ble_eq_true rfl) dL_law_759) ?_
  refine lv_icmp_eq (tgt := 1216) hx hb dL_law_762 (by decide) (fun _ => ?_) (fun z => absurd rfl z)
  refine W.widen (k := cells + 3) (n := slots + 46) (by omega) (by omega) ?_
  exact kk f n H _ _ ⟨hX, hR, hG, htop⟩ hS hl
set_option maxHeartbeats 4000000 in
set_option maxRecDepth 100000 in
/-- loopArea -/
theorem law_19 (hC : CallFix p m c cL_law 4 s #[Value.ref b] lw_good RL) (hK : KK g s) (hXs : va_X b L xs s s.heap) (hbl : b < s.heap.size) (hL : L ≤ 3072) (hi : 6 * i + 6 ≤ L) (hc0 : LC x M o q s.heap.size top) (hJ : LJ g x a M o q top f n H) (hS : va_S (fun z => s.heap.size ≤ z) s.heap H locs) (hcl : cells + 3 ≤ 600000) (hsl : slots + 46 ≤ 7302250) (hl : lv_has ls 4 [(3, .int (nI (6 * i))), (2, .ref o), (1, .ref (x 0)), (0, .ref b)])
    (kk : ∀ (f2 : Nat → Int32) (n2 : Nat) (H2 : Heap) (locs2 : List Loc) (ls2 : Array Slot), LJ g x a M o q top f2 n2 H2 → va_S (fun z => s.heap.size ≤ z) s.heap H2 locs2 → lv_has ls2 4 [(3, .int (nI (6 * i))), (2, .ref o), (1, .ref (x 0)), (0, .ref b)] → W p l e room_1 s m #[Value.ref b] below meth c H2 locs2 (cells + 3) (slots + 46) Q (F0 m 1216 ls2 [])) : W p l e room_1 s m #[Value.ref b] below meth c H locs cells slots Q (F0 m 767 ls []) := by
  have hx := hC.1
  have hb := hC.2.1
  have hml := hC.2.2.1
  obtain ⟨hX, hR, hG, htop⟩ := hJ
  obtain ⟨⟨hGF, ⟨hV8, hV12⟩, hGT, cn, hcn, hc, hGC⟩, -⟩ := id hG
  have hn4 := hX.1
  obtain ⟨rq, hXB, hXS, hback⟩ := hX.q hc hcn
  refine lv_aload_n hx hb dL_law_767 rfl (lvG hl rfl) ?_
  refine lv_aload_n hx hb dL_law_768 rfl (lvG hl rfl) ?_
  refine lv_iload_n hx hb dL_law_769 rfl (lvG hl rfl) ?_
  refine lv_iconst (v := nI 1) hx hb dL_law_770 (by decide) ?_
  refine n_iadd hC dL_law_771 ?_
  refine l_sld hC hXs hbl hS (show 6 * i + 1 < L by omega) hL dL_law_772 ?_
  refine k_callPI (k_goV (rest := []) hC hK (c_X4_loopArea l g x a n f cn rq hc hcn (xs (6 * i + 1)) (fun j hj => df_rg (hGC j hj).2.2)) L_L_X4_loopArea ⟨⟨Nat.le_of_ble_eq_true rfl, Nat.le_of_ble_eq_true rfl⟩, ⟨rfl, rfl⟩, ⟨(by show _ ≤ 600000; omega), (by show _ ≤ 7302250; omega)⟩⟩ (hX.recv hK) (hXB) rfl hl.1 rfl (Nat.le_of_ble_eq_true rfl) dL_law_773) ?_
  refine lv_aload_n hx hb dL_law_776 rfl (lvG hl rfl) ?_
  refine lv_aload_n hx hb dL_law_777 rfl (lvG hl rfl) ?_
  refine lv_iload_n hx hb dL_law_778 rfl (lvG hl rfl) ?_
  refine lv_iconst (v := nI 1) hx hb dL_law_779 (by decide) ?_
  refine n_iadd hC dL_law_780 ?_
  refine l_sld hC hXs hbl hS (show 6 * i + 1 < L by omega) hL dL_law_781 ?_
  refine k_callPI (k_goV (rest := [.int (if s_okC f (xs (6 * i + 1)) then s_pa (s_pt f ((xs (6 * i + 1))).toNatClampNeg) False 20 else cINV)]) hC hK (c_X5_loopArea l g o q f n (xs (6 * i + 1)) cn hc hcn (fun j hj => df_rg (hGC j hj).2.2)) L_L_X5_loopArea ⟨⟨Nat.le_of_ble_eq_true rfl, Nat.le_of_ble_eq_true rfl⟩, ⟨rfl, rfl⟩, ⟨(by show _ ≤ 600000; omega), (by show _ ≤ 7302250; omega)⟩⟩ (hR.recv hK) hR rfl hl.1 rfl (Nat.le_of_ble_eq_true rfl) dL_law_782) ?_
  refine lv_icmp_eq (tgt := 1216) hx hb dL_law_785 (by decide) (fun _ => ?_) (fun z => absurd rfl z)
  refine W.widen (k := cells + 3) (n := slots + 46) (by omega) (by omega) ?_
  exact kk f n H _ _ ⟨hX, hR, hG, htop⟩ hS hl
set_option maxHeartbeats 4000000 in
set_option maxRecDepth 100000 in
/-- loopStations -/
theorem law_20 (hC : CallFix p m c cL_law 4 s #[Value.ref b] lw_good RL) (hK : KK g s) (hXs : va_X b L xs s s.heap) (hbl : b < s.heap.size) (hL : L ≤ 3072) (hi : 6 * i + 6 ≤ L) (hc0 : LC x M o q s.heap.size top) (hJ : LJ g x a M o q top f n H) (hS : va_S (fun z => s.heap.size ≤ z) s.heap H locs) (hcl : cells + 3 ≤ 600000) (hsl : slots + 46 ≤ 7302250) (hl : lv_has ls 4 [(3, .int (nI (6 * i))), (2, .ref o), (1, .ref (x 0)), (0, .ref b)])
    (kk : ∀ (f2 : Nat → Int32) (n2 : Nat) (H2 : Heap) (locs2 : List Loc) (ls2 : Array Slot), LJ g x a M o q top f2 n2 H2 → va_S (fun z => s.heap.size ≤ z) s.heap H2 locs2 → lv_has ls2 4 [(3, .int (nI (6 * i))), (2, .ref o), (1, .ref (x 0)), (0, .ref b)] → W p l e room_1 s m #[Value.ref b] below meth c H2 locs2 (cells + 3) (slots + 46) Q (F0 m 1216 ls2 [])) : W p l e room_1 s m #[Value.ref b] below meth c H locs cells slots Q (F0 m 790 ls []) := by
  have hx := hC.1
  have hb := hC.2.1
  have hml := hC.2.2.1
  obtain ⟨hX, hR, hG, htop⟩ := hJ
  obtain ⟨⟨hGF, ⟨hV8, hV12⟩, hGT, cn, hcn, hc, hGC⟩, -⟩ := id hG
  have hn4 := hX.1
  obtain ⟨rq, hXB, hXS, hback⟩ := hX.q hc hcn
  refine lv_aload_n hx hb dL_law_790 rfl (lvG hl rfl) ?_
  refine lv_aload_n hx hb dL_law_791 rfl (lvG hl rfl) ?_
  refine lv_iload_n hx hb dL_law_792 rfl (lvG hl rfl) ?_
  refine lv_iconst (v := nI 1) hx hb dL_law_793 (by decide) ?_
  refine n_iadd hC dL_law_794 ?_
  refine l_sld hC hXs hbl hS (show 6 * i + 1 < L by omega) hL dL_law_795 ?_
  refine k_callPI (k_goV (rest := []) hC hK (c_X4_loopStations l g x a n f cn rq hc hcn (xs (6 * i + 1))) L_L_X4_loopStations ⟨⟨Nat.le_of_ble_eq_true rfl, Nat.le_of_ble_eq_true rfl⟩, ⟨rfl, rfl⟩, ⟨(by show _ ≤ 600000; omega), (by show _ ≤ 7302250; omega)⟩⟩ (hX.recv hK) (hXB) rfl hl.1 rfl (Nat.le_of_ble_eq_true rfl) dL_law_796) ?_
  refine lv_aload_n hx hb dL_law_799 rfl (lvG hl rfl) ?_
  refine lv_aload_n hx hb dL_law_800 rfl (lvG hl rfl) ?_
  refine lv_iload_n hx hb dL_law_801 rfl (lvG hl rfl) ?_
  refine lv_iconst (v := nI 1) hx hb dL_law_802 (by decide) ?_
  refine n_iadd hC dL_law_803 ?_
  refine l_sld hC hXs hbl hS (show 6 * i + 1 < L by omega) hL dL_law_804 ?_
  refine k_callPI (k_goV (rest := [.int (if s_okC f (xs (6 * i + 1)) then s_ls (s_pt f ((xs (6 * i + 1))).toNatClampNeg) 21 else cINV)]) hC hK (c_X5_loopStations l g o q f n (xs (6 * i + 1)) cn hc hcn) L_L_X5_loopStations ⟨⟨Nat.le_of_ble_eq_true rfl, Nat.le_of_ble_eq_true rfl⟩, ⟨rfl, rfl⟩, ⟨(by show _ ≤ 600000; omega), (by show _ ≤ 7302250; omega)⟩⟩ (hR.recv hK) hR rfl hl.1 rfl (Nat.le_of_ble_eq_true rfl) dL_law_805) ?_
  refine lv_icmp_eq (tgt := 1216) hx hb dL_law_808 (by decide) (fun _ => ?_) (fun z => absurd rfl z)
  refine W.widen (k := cells + 3) (n := slots + 46) (by omega) (by omega) ?_
  exact kk f n H _ _ ⟨hX, hR, hG, htop⟩ hS hl
set_option maxHeartbeats 4000000 in
set_option maxRecDepth 100000 in
/-- meanPressure -/
theorem law_21 (hC : CallFix p m c cL_law 4 s #[Value.ref b] lw_good RL) (hK : KK g s) (hXs : va_X b L xs s s.heap) (hbl : b < s.heap.size) (hL : L ≤ 3072) (hi : 6 * i + 6 ≤ L) (hc0 : LC x M o q s.heap.size top) (hJ : LJ g x a M o q top f n H) (hS : va_S (fun z => s.heap.size ≤ z) s.heap H locs) (hcl : cells + 3 ≤ 600000) (hsl : slots + 46 ≤ 7302250) (hl : lv_has ls 4 [(3, .int (nI (6 * i))), (2, .ref o), (1, .ref (x 0)), (0, .ref b)])
    (kk : ∀ (f2 : Nat → Int32) (n2 : Nat) (H2 : Heap) (locs2 : List Loc) (ls2 : Array Slot), LJ g x a M o q top f2 n2 H2 → va_S (fun z => s.heap.size ≤ z) s.heap H2 locs2 → lv_has ls2 4 [(3, .int (nI (6 * i))), (2, .ref o), (1, .ref (x 0)), (0, .ref b)] → W p l e room_1 s m #[Value.ref b] below meth c H2 locs2 (cells + 3) (slots + 46) Q (F0 m 1216 ls2 [])) : W p l e room_1 s m #[Value.ref b] below meth c H locs cells slots Q (F0 m 813 ls []) := by
  have hx := hC.1
  have hb := hC.2.1
  have hml := hC.2.2.1
  obtain ⟨hX, hR, hG, htop⟩ := hJ
  obtain ⟨⟨hGF, ⟨hV8, hV12⟩, hGT, cn, hcn, hc, hGC⟩, -⟩ := id hG
  have hn4 := hX.1
  obtain ⟨rq, hXB, hXS, hback⟩ := hX.q hc hcn
  refine lv_aload_n hx hb dL_law_813 rfl (lvG hl rfl) ?_
  refine lv_aload_n hx hb dL_law_814 rfl (lvG hl rfl) ?_
  refine lv_iload_n hx hb dL_law_815 rfl (lvG hl rfl) ?_
  refine lv_iconst (v := nI 1) hx hb dL_law_816 (by decide) ?_
  refine n_iadd hC dL_law_817 ?_
  refine l_sld hC hXs hbl hS (show 6 * i + 1 < L by omega) hL dL_law_818 ?_
  refine k_callPI (k_goV (rest := []) hC hK (c_X4_meanPressure l g x a n f cn rq hc hcn (xs (6 * i + 1)) (fun j hj => df_rg (hGC j hj).2.2)) L_L_X4_meanPressure ⟨⟨Nat.le_of_ble_eq_true rfl, Nat.le_of_ble_eq_true rfl⟩, ⟨rfl, rfl⟩, ⟨(by show _ ≤ 600000; omega), (by show _ ≤ 7302250; omega)⟩⟩ (hX.recv hK) (hXB) rfl hl.1 rfl (Nat.le_of_ble_eq_true rfl) dL_law_819) ?_
  refine lv_aload_n hx hb dL_law_822 rfl (lvG hl rfl) ?_
  refine lv_aload_n hx hb dL_law_823 rfl (lvG hl rfl) ?_
  refine lv_iload_n hx hb dL_law_824 rfl (lvG hl rfl) ?_
  refine lv_iconst (v := nI 1) hx hb dL_law_825 (by decide) ?_
  refine n_iadd hC dL_law_826 ?_
  refine l_sld hC hXs hbl hS (show 6 * i + 1 < L by omega) hL dL_law_827 ?_
  refine k_callPI (k_goV (rest := [.int (if s_okC f (xs (6 * i + 1)) then (s_quo ((s_ar (s_pt f ((xs (6 * i + 1))).toNatClampNeg) 20).toInt64 * (1000 : Int64)) (40 : Int64)).toInt32 else cINV)]) hC hK (c_X5_meanPressure l g o q f n (xs (6 * i + 1)) cn hc hcn) L_L_X5_meanPressure ⟨⟨Nat.le_of_ble_eq_true rfl, Nat.le_of_ble_eq_true rfl⟩, ⟨rfl, rfl⟩, ⟨(by show _ ≤ 600000; omega), (by show _ ≤ 7302250; omega)⟩⟩ (hR.recv hK) hR rfl hl.1 rfl (Nat.le_of_ble_eq_true rfl) dL_law_828) ?_
  refine lv_icmp_eq (tgt := 1216) hx hb dL_law_831 (by decide) (fun _ => ?_) (fun z => absurd rfl z)
  refine W.widen (k := cells + 3) (n := slots + 46) (by omega) (by omega) ?_
  exact kk f n H _ _ ⟨hX, hR, hG, htop⟩ hS hl
set_option maxHeartbeats 4000000 in
set_option maxRecDepth 100000 in
/-- power -/
theorem law_22 (hC : CallFix p m c cL_law 4 s #[Value.ref b] lw_good RL) (hK : KK g s) (hXs : va_X b L xs s s.heap) (hbl : b < s.heap.size) (hL : L ≤ 3072) (hi : 6 * i + 6 ≤ L) (hc0 : LC x M o q s.heap.size top) (hJ : LJ g x a M o q top f n H) (hS : va_S (fun z => s.heap.size ≤ z) s.heap H locs) (hcl : cells + 3 ≤ 600000) (hsl : slots + 46 ≤ 7302250) (hl : lv_has ls 4 [(3, .int (nI (6 * i))), (2, .ref o), (1, .ref (x 0)), (0, .ref b)])
    (kk : ∀ (f2 : Nat → Int32) (n2 : Nat) (H2 : Heap) (locs2 : List Loc) (ls2 : Array Slot), LJ g x a M o q top f2 n2 H2 → va_S (fun z => s.heap.size ≤ z) s.heap H2 locs2 → lv_has ls2 4 [(3, .int (nI (6 * i))), (2, .ref o), (1, .ref (x 0)), (0, .ref b)] → W p l e room_1 s m #[Value.ref b] below meth c H2 locs2 (cells + 3) (slots + 46) Q (F0 m 1216 ls2 [])) : W p l e room_1 s m #[Value.ref b] below meth c H locs cells slots Q (F0 m 836 ls []) := by
  have hx := hC.1
  have hb := hC.2.1
  have hml := hC.2.2.1
  obtain ⟨hX, hR, hG, htop⟩ := hJ
  obtain ⟨⟨hGF, ⟨hV8, hV12⟩, hGT, cn, hcn, hc, hGC⟩, -⟩ := id hG
  have hn4 := hX.1
  obtain ⟨rq, hXB, hXS, hback⟩ := hX.q hc hcn
  refine lv_aload_n hx hb dL_law_836 rfl (lvG hl rfl) ?_
  refine lv_aload_n hx hb dL_law_837 rfl (lvG hl rfl) ?_
  refine lv_iload_n hx hb dL_law_838 rfl (lvG hl rfl) ?_
  refine lv_iconst (v := nI 1) hx hb dL_law_839 (by decide) ?_
  refine n_iadd hC dL_law_840 ?_
  refine l_sld hC hXs hbl hS (show 6 * i + 1 < L by omega) hL dL_law_841 ?_
  refine k_callPL (k_goV (rest := []) hC hK (c_X4_power l g x a n f cn rq hc hcn (xs (6 * i + 1)) (en_of hGC)) L_L_X4_power ⟨⟨Nat.le_of_ble_eq_true rfl, Nat.le_of_ble_eq_true rfl⟩, ⟨rfl, rfl⟩, ⟨(by show _ ≤ 600000; omega), (by show _ ≤ 7302250; omega)⟩⟩ (hX.recv hK) (hXB) rfl hl.1 rfl (Nat.le_of_ble_eq_true rfl) dL_law_842) ?_
  refine lv_aload_n hx hb dL_law_845 rfl (lvG hl rfl) ?_
  refine lv_aload_n hx hb dL_law_846 rfl (lvG hl rfl) ?_
  refine lv_iload_n hx hb dL_law_847 rfl (lvG hl rfl) ?_
  refine lv_iconst (v := nI 1) hx hb dL_law_848 (by decide) ?_
  refine n_iadd hC dL_law_849 ?_
  refine l_sld hC hXs hbl hS (show 6 * i + 1 < L by omega) hL dL_law_850 ?_
  refine k_callPL (k_goV (rest := [.long (if s_okC f (xs (6 * i + 1)) then s_pc f ((xs (6 * i + 1))).toNatClampNeg else (-2000000001 : Int64))]) hC hK (c_X5_power l g o q f n (xs (6 * i + 1)) cn hc hcn (en_of hGC)) L_L_X5_power ⟨⟨Nat.le_of_ble_eq_true rfl, Nat.le_of_ble_eq_true rfl⟩, ⟨rfl, rfl⟩, ⟨(by show _ ≤ 600000; omega), (by show _ ≤ 7302250; omega)⟩⟩ (hR.recv hK) hR rfl hl.1 rfl (Nat.le_of_ble_eq_true rfl) dL_law_851) ?_
  refine j_leq (tgt := 1216) hC dL_law_854 dL_law_855 (by decide) (fun _ => ?_) (fun z => absurd rfl z)
  refine W.widen (k := cells + 3) (n := slots + 46) (by omega) (by omega) ?_
  exact kk f n H _ _ ⟨hX, hR, hG, htop⟩ hS hl
set_option maxHeartbeats 4000000 in
set_option maxRecDepth 100000 in
/-- event -/
theorem law_23 (hC : CallFix p m c cL_law 4 s #[Value.ref b] lw_good RL) (hK : KK g s) (hXs : va_X b L xs s s.heap) (hbl : b < s.heap.size) (hL : L ≤ 3072) (hi : 6 * i + 6 ≤ L) (hc0 : LC x M o q s.heap.size top) (hJ : LJ g x a M o q top f n H) (hS : va_S (fun z => s.heap.size ≤ z) s.heap H locs) (hcl : cells + 3 ≤ 600000) (hsl : slots + 46 ≤ 7302250) (hl : lv_has ls 4 [(3, .int (nI (6 * i))), (2, .ref o), (1, .ref (x 0)), (0, .ref b)])
    (kk : ∀ (f2 : Nat → Int32) (n2 : Nat) (H2 : Heap) (locs2 : List Loc) (ls2 : Array Slot), LJ g x a M o q top f2 n2 H2 → va_S (fun z => s.heap.size ≤ z) s.heap H2 locs2 → lv_has ls2 4 [(3, .int (nI (6 * i))), (2, .ref o), (1, .ref (x 0)), (0, .ref b)] → W p l e room_1 s m #[Value.ref b] below meth c H2 locs2 (cells + 3) (slots + 46) Q (F0 m 1216 ls2 [])) : W p l e room_1 s m #[Value.ref b] below meth c H locs cells slots Q (F0 m 860 ls []) := by
  have hx := hC.1
  have hb := hC.2.1
  have hml := hC.2.2.1
  obtain ⟨hX, hR, hG, htop⟩ := hJ
  obtain ⟨⟨hGF, ⟨hV8, hV12⟩, hGT, cn, hcn, hc, hGC⟩, -⟩ := id hG
  have hn4 := hX.1
  obtain ⟨rq, hXB, hXS, hback⟩ := hX.q hc hcn
  refine lv_aload_n hx hb dL_law_860 rfl (lvG hl rfl) ?_
  refine lv_aload_n hx hb dL_law_861 rfl (lvG hl rfl) ?_
  refine lv_iload_n hx hb dL_law_862 rfl (lvG hl rfl) ?_
  refine lv_iconst (v := nI 1) hx hb dL_law_863 (by decide) ?_
  refine n_iadd hC dL_law_864 ?_
  refine l_sld hC hXs hbl hS (show 6 * i + 1 < L by omega) hL dL_law_865 ?_
  refine lv_aload_n hx hb dL_law_866 rfl (lvG hl rfl) ?_
  refine lv_iload_n hx hb dL_law_867 rfl (lvG hl rfl) ?_
  refine lv_iconst (v := nI 2) hx hb dL_law_868 (by decide) ?_
  refine n_iadd hC dL_law_869 ?_
  refine l_sld hC hXs hbl hS (show 6 * i + 2 < L by omega) hL dL_law_870 ?_
  refine k_callMI0 (k_goV (rest := []) hC hK (c_X4_event l g x a n f cn rq hc hcn (xs (6 * i + 1)) (xs (6 * i + 2)) (fun j hj => ad_le hGF.2.2.2.2.2.2.1 (hGC j hj).2.2)) L_L_X4_event ⟨⟨Nat.le_of_ble_eq_true rfl, Nat.le_of_ble_eq_true rfl⟩, ⟨rfl, rfl⟩, ⟨(by show _ ≤ 600000; omega), (by show _ ≤ 7302250; omega)⟩⟩ (hX.recv hK) (⟨hXB, hXS⟩) rfl hl.1 rfl (Nat.le_of_ble_eq_true rfl) dL_law_871) hS (fun z h => (hc0.2.2 z (Or.inr (Or.inl h))).1) (fun r1 H1 locs1 hq1 hz1 hk1 hS1 => ?_)
  obtain ⟨e1, hX1⟩ := hq1
  have hX1 := hback H1 hk1 hX1
  have hR1 := hR.kept hk1 (fun c => (hc0.2.1 _ (Or.inr c)).1 rfl) (fun c => (hc0.2.1 _ (Or.inr c)).2 rfl)
  refine lv_aload_n hx hb dL_law_874 rfl (lvG hl rfl) ?_
  refine lv_aload_n hx hb dL_law_875 rfl (lvG hl rfl) ?_
  refine lv_iload_n hx hb dL_law_876 rfl (lvG hl rfl) ?_
  refine lv_iconst (v := nI 1) hx hb dL_law_877 (by decide) ?_
  refine n_iadd hC dL_law_878 ?_
  refine l_sld hC hXs hbl hS1 (show 6 * i + 1 < L by omega) hL dL_law_879 ?_
  refine lv_aload_n hx hb dL_law_880 rfl (lvG hl rfl) ?_
  refine lv_iload_n hx hb dL_law_881 rfl (lvG hl rfl) ?_
  refine lv_iconst (v := nI 2) hx hb dL_law_882 (by decide) ?_
  refine n_iadd hC dL_law_883 ?_
  refine l_sld hC hXs hbl hS1 (show 6 * i + 2 < L by omega) hL dL_law_884 ?_
  refine k_callPI (k_goV (rest := [.int (r1)]) hC hK (c_X5_event l g o q f n (xs (6 * i + 1)) (xs (6 * i + 2)) cn hc hcn (fun j hj => ad_le hGF.2.2.2.2.2.2.1 (hGC j hj).2.2)) L_L_X5_event ⟨⟨Nat.le_of_ble_eq_true rfl, Nat.le_of_ble_eq_true rfl⟩, ⟨rfl, rfl⟩, ⟨(by show _ ≤ 600000; omega), (by show _ ≤ 7302250; omega)⟩⟩ (hR1.recv hK) hR1 rfl hl.1 rfl (Nat.le_of_ble_eq_true rfl) dL_law_885) ?_
  refine lv_icmp_eq (tgt := 1216) hx hb dL_law_888 (by decide) (fun _ => ?_) (fun z => absurd e1 z)
  refine W.widen (k := cells + 3) (n := slots + 46) (by omega) (by omega) ?_
  exact kk f n H1 _ _ ⟨hX1, hR1, hG, (Nat.le_trans htop hz1)⟩ hS1 hl
set_option maxHeartbeats 4000000 in
set_option maxRecDepth 100000 in
/-- lateness -/
theorem law_24 (hC : CallFix p m c cL_law 4 s #[Value.ref b] lw_good RL) (hK : KK g s) (hXs : va_X b L xs s s.heap) (hbl : b < s.heap.size) (hL : L ≤ 3072) (hi : 6 * i + 6 ≤ L) (hc0 : LC x M o q s.heap.size top) (hJ : LJ g x a M o q top f n H) (hS : va_S (fun z => s.heap.size ≤ z) s.heap H locs) (hcl : cells + 3 ≤ 600000) (hsl : slots + 46 ≤ 7302250) (hl : lv_has ls 4 [(3, .int (nI (6 * i))), (2, .ref o), (1, .ref (x 0)), (0, .ref b)])
    (kk : ∀ (f2 : Nat → Int32) (n2 : Nat) (H2 : Heap) (locs2 : List Loc) (ls2 : Array Slot), LJ g x a M o q top f2 n2 H2 → va_S (fun z => s.heap.size ≤ z) s.heap H2 locs2 → lv_has ls2 4 [(3, .int (nI (6 * i))), (2, .ref o), (1, .ref (x 0)), (0, .ref b)] → W p l e room_1 s m #[Value.ref b] below meth c H2 locs2 (cells + 3) (slots + 46) Q (F0 m 1216 ls2 [])) : W p l e room_1 s m #[Value.ref b] below meth c H locs cells slots Q (F0 m 893 ls []) := by
  have hx := hC.1
  have hb := hC.2.1
  have hml := hC.2.2.1
  obtain ⟨hX, hR, hG, htop⟩ := hJ
  obtain ⟨⟨hGF, ⟨hV8, hV12⟩, hGT, cn, hcn, hc, hGC⟩, -⟩ := id hG
  have hn4 := hX.1
  obtain ⟨rq, hXB, hXS, hback⟩ := hX.q hc hcn
  refine lv_aload_n hx hb dL_law_893 rfl (lvG hl rfl) ?_
  refine lv_aload_n hx hb dL_law_894 rfl (lvG hl rfl) ?_
  refine lv_iload_n hx hb dL_law_895 rfl (lvG hl rfl) ?_
  refine lv_iconst (v := nI 1) hx hb dL_law_896 (by decide) ?_
  refine n_iadd hC dL_law_897 ?_
  refine l_sld hC hXs hbl hS (show 6 * i + 1 < L by omega) hL dL_law_898 ?_
  refine lv_aload_n hx hb dL_law_899 rfl (lvG hl rfl) ?_
  refine lv_iload_n hx hb dL_law_900 rfl (lvG hl rfl) ?_
  refine lv_iconst (v := nI 2) hx hb dL_law_901 (by decide) ?_
  refine n_iadd hC dL_law_902 ?_
  refine l_sld hC hXs hbl hS (show 6 * i + 2 < L by omega) hL dL_law_903 ?_
  refine k_callMI0 (k_goV (rest := []) hC hK (c_X4_lateness l g x a n f cn rq hc hcn (xs (6 * i + 1)) (xs (6 * i + 2)) (fun j hj => ad_le hGF.2.2.2.2.2.2.1 (hGC j hj).2.2) (en_of hGC)) L_L_X4_lateness ⟨⟨Nat.le_of_ble_eq_true rfl, Nat.le_of_ble_eq_true rfl⟩, ⟨rfl, rfl⟩, ⟨(by show _ ≤ 600000; omega), (by show _ ≤ 7302250; omega)⟩⟩ (hX.recv hK) (⟨hXB, hXS⟩) rfl hl.1 rfl (Nat.le_of_ble_eq_true rfl) dL_law_904) hS (fun z h => (hc0.2.2 z (Or.inr (Or.inl h))).1) (fun r1 H1 locs1 hq1 hz1 hk1 hS1 => ?_)
  obtain ⟨e1, hX1⟩ := hq1
  have hX1 := hback H1 hk1 hX1
  have hR1 := hR.kept hk1 (fun c => (hc0.2.1 _ (Or.inr c)).1 rfl) (fun c => (hc0.2.1 _ (Or.inr c)).2 rfl)
  refine lv_aload_n hx hb dL_law_907 rfl (lvG hl rfl) ?_
  refine lv_aload_n hx hb dL_law_908 rfl (lvG hl rfl) ?_
  refine lv_iload_n hx hb dL_law_909 rfl (lvG hl rfl) ?_
  refine lv_iconst (v := nI 1) hx hb dL_law_910 (by decide) ?_
  refine n_iadd hC dL_law_911 ?_
  refine l_sld hC hXs hbl hS1 (show 6 * i + 1 < L by omega) hL dL_law_912 ?_
  refine lv_aload_n hx hb dL_law_913 rfl (lvG hl rfl) ?_
  refine lv_iload_n hx hb dL_law_914 rfl (lvG hl rfl) ?_
  refine lv_iconst (v := nI 2) hx hb dL_law_915 (by decide) ?_
  refine n_iadd hC dL_law_916 ?_
  refine l_sld hC hXs hbl hS1 (show 6 * i + 2 < L by omega) hL dL_law_917 ?_
  refine k_callPI (k_goV (rest := [.int (r1)]) hC hK (c_X5_lateness l g o q f n (xs (6 * i + 1)) (xs (6 * i + 2)) cn hc hcn (fun j hj => ad_le hGF.2.2.2.2.2.2.1 (hGC j hj).2.2) (en_of hGC)) L_L_X5_lateness ⟨⟨Nat.le_of_ble_eq_true rfl, Nat.le_of_ble_eq_true rfl⟩, ⟨rfl, rfl⟩, ⟨(by show _ ≤ 600000; omega), (by show _ ≤ 7302250; omega)⟩⟩ (hR1.recv hK) hR1 rfl hl.1 rfl (Nat.le_of_ble_eq_true rfl) dL_law_918) ?_
  refine lv_icmp_eq (tgt := 1216) hx hb dL_law_921 (by decide) (fun _ => ?_) (fun z => absurd e1 z)
  refine W.widen (k := cells + 3) (n := slots + 46) (by omega) (by omega) ?_
  exact kk f n H1 _ _ ⟨hX1, hR1, hG, (Nat.le_trans htop hz1)⟩ hS1 hl
set_option maxHeartbeats 4000000 in
set_option maxRecDepth 100000 in
/-- slip -/
theorem law_25 (hC : CallFix p m c cL_law 4 s #[Value.ref b] lw_good RL) (hK : KK g s) (hXs : va_X b L xs s s.heap) (hbl : b < s.heap.size) (hL : L ≤ 3072) (hi : 6 * i + 6 ≤ L) (hc0 : LC x M o q s.heap.size top) (hJ : LJ g x a M o q top f n H) (hS : va_S (fun z => s.heap.size ≤ z) s.heap H locs) (hcl : cells + 3 ≤ 600000) (hsl : slots + 46 ≤ 7302250) (hl : lv_has ls 4 [(3, .int (nI (6 * i))), (2, .ref o), (1, .ref (x 0)), (0, .ref b)])
    (kk : ∀ (f2 : Nat → Int32) (n2 : Nat) (H2 : Heap) (locs2 : List Loc) (ls2 : Array Slot), LJ g x a M o q top f2 n2 H2 → va_S (fun z => s.heap.size ≤ z) s.heap H2 locs2 → lv_has ls2 4 [(3, .int (nI (6 * i))), (2, .ref o), (1, .ref (x 0)), (0, .ref b)] → W p l e room_1 s m #[Value.ref b] below meth c H2 locs2 (cells + 3) (slots + 46) Q (F0 m 1216 ls2 [])) : W p l e room_1 s m #[Value.ref b] below meth c H locs cells slots Q (F0 m 926 ls []) := by
  have hx := hC.1
  have hb := hC.2.1
  have hml := hC.2.2.1
  obtain ⟨hX, hR, hG, htop⟩ := hJ
  obtain ⟨⟨hGF, ⟨hV8, hV12⟩, hGT, cn, hcn, hc, hGC⟩, -⟩ := id hG
  have hn4 := hX.1
  obtain ⟨rq, hXB, hXS, hback⟩ := hX.q hc hcn
  refine lv_aload_n hx hb dL_law_926 rfl (lvG hl rfl) ?_
  refine lv_aload_n hx hb dL_law_927 rfl (lvG hl rfl) ?_
  refine lv_iload_n hx hb dL_law_928 rfl (lvG hl rfl) ?_
  refine lv_iconst (v := nI 1) hx hb dL_law_929 (by decide) ?_
  refine n_iadd hC dL_law_930 ?_
  refine l_sld hC hXs hbl hS (show 6 * i + 1 < L by omega) hL dL_law_931 ?_
  refine k_callMI0 (k_goV (rest := []) hC hK (c_X4_slip l g x a n f cn rq hc hcn (xs (6 * i + 1)) (fun j hj => ad_le hGF.2.2.2.2.2.2.1 (hGC j hj).2.2) (en_of hGC)) L_L_X4_slip ⟨⟨Nat.le_of_ble_eq_true rfl, Nat.le_of_ble_eq_true rfl⟩, ⟨rfl, rfl⟩, ⟨(by show _ ≤ 600000; omega), (by show _ ≤ 7302250; omega)⟩⟩ (hX.recv hK) (⟨hXB, hXS⟩) rfl hl.1 rfl (Nat.le_of_ble_eq_true rfl) dL_law_932) hS (fun z h => (hc0.2.2 z (Or.inr (Or.inl h))).1) (fun r1 H1 locs1 hq1 hz1 hk1 hS1 => ?_)
  obtain ⟨e1, hX1⟩ := hq1
  have hX1 := hback H1 hk1 hX1
  have hR1 := hR.kept hk1 (fun c => (hc0.2.1 _ (Or.inr c)).1 rfl) (fun c => (hc0.2.1 _ (Or.inr c)).2 rfl)
  refine lv_aload_n hx hb dL_law_935 rfl (lvG hl rfl) ?_
  refine lv_aload_n hx hb dL_law_936 rfl (lvG hl rfl) ?_
  refine lv_iload_n hx hb dL_law_937 rfl (lvG hl rfl) ?_
  refine lv_iconst (v := nI 1) hx hb dL_law_938 (by decide) ?_
  refine n_iadd hC dL_law_939 ?_
  refine l_sld hC hXs hbl hS1 (show 6 * i + 1 < L by omega) hL dL_law_940 ?_
  refine k_callPI (k_goV (rest := [.int (r1)]) hC hK (c_X5_slip l g o q f n (xs (6 * i + 1)) cn hc hcn (fun j hj => ad_le hGF.2.2.2.2.2.2.1 (hGC j hj).2.2) (en_of hGC)) L_L_X5_slip ⟨⟨Nat.le_of_ble_eq_true rfl, Nat.le_of_ble_eq_true rfl⟩, ⟨rfl, rfl⟩, ⟨(by show _ ≤ 600000; omega), (by show _ ≤ 7302250; omega)⟩⟩ (hR1.recv hK) hR1 rfl hl.1 rfl (Nat.le_of_ble_eq_true rfl) dL_law_941) ?_
  refine lv_icmp_eq (tgt := 1216) hx hb dL_law_944 (by decide) (fun _ => ?_) (fun z => absurd e1 z)
  refine W.widen (k := cells + 3) (n := slots + 46) (by omega) (by omega) ?_
  exact kk f n H1 _ _ ⟨hX1, hR1, hG, (Nat.le_trans htop hz1)⟩ hS1 hl
end LAW
