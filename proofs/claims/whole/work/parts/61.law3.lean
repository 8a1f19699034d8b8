section LAW
variable {p : Program} {l : Launch} {e : Env} {s : State} {m : MethodId} {below : List Frame} {meth : Method} {c : Code} {H : Heap} {locs : List Loc} {cells slots : Nat} {Q : State → Prop}
variable {b L i : Nat} {xs : Nat → Int32} {ls : Array Slot} {g : kG} {x a : Nat → Nat} {M : Nat → Prop} {o q top n : Nat} {f : Nat → Int32}
set_option maxHeartbeats 4000000 in
set_option maxRecDepth 100000 in
/-- constant -/
theorem law_26 (hC : CallFix p m c cL_law 4 s #[Value.ref b] lw_good RL) (hK : KK g s) (hXs : va_X b L xs s s.heap) (hbl : b < s.heap.size) (hL : L ≤ 3072) (hi : 6 * i + 6 ≤ L) (hc0 : LC x M o q s.heap.size top) (hJ : LJ g x a M o q top f n H) (hS : va_S (fun z => s.heap.size ≤ z) s.heap H locs) (hcl : cells + 3 ≤ 600000) (hsl : slots + 46 ≤ 7302250) (hl : lv_has ls 4 [(3, .int (nI (6 * i))), (2, .ref o), (1, .ref (x 0)), (0, .ref b)])
    (kk : ∀ (f2 : Nat → Int32) (n2 : Nat) (H2 : Heap) (locs2 : List Loc) (ls2 : Array Slot), LJ g x a M o q top f2 n2 H2 → va_S (fun z => s.heap.size ≤ z) s.heap H2 locs2 → lv_has ls2 4 [(3, .int (nI (6 * i))), (2, .ref o), (1, .ref (x 0)), (0, .ref b)] → W p l e room_1 s m #[Value.ref b] below meth c H2 locs2 (cells + 3) (slots + 46) Q (F0 m 1216 ls2 [])) : W p l e room_1 s m #[Value.ref b] below meth c H locs cells slots Q (F0 m 949 ls []) := by
  have hx := hC.1
  have hb := hC.2.1
  have hml := hC.2.2.1
  obtain ⟨hX, hR, hG, htop⟩ := hJ
  obtain ⟨⟨hGF, ⟨hV8, hV12⟩, hGT, cn, hcn, hc, hGC⟩, -⟩ := id hG
  have hn4 := hX.1
  obtain ⟨rq, hXB, hXS, hback⟩ := hX.q hc hcn
  refine lv_aload_n hx hb dL_law_949 rfl (lvG hl rfl) ?_
  refine lv_aload_n hx hb dL_law_950 rfl (lvG hl rfl) ?_
  refine lv_iload_n hx hb dL_law_951 rfl (lvG hl rfl) ?_
  refine lv_iconst (v := nI 1) hx hb dL_law_952 (by decide) ?_
  refine n_iadd hC dL_law_953 ?_
  refine l_sld hC hXs hbl hS (show 6 * i + 1 < L by omega) hL dL_law_954 ?_
  refine lv_aload_n hx hb dL_law_955 rfl (lvG hl rfl) ?_
  refine lv_iload_n hx hb dL_law_956 rfl (lvG hl rfl) ?_
  refine lv_iconst (v := nI 2) hx hb dL_law_957 (by decide) ?_
  refine n_iadd hC dL_law_958 ?_
  refine l_sld hC hXs hbl hS (show 6 * i + 2 < L by omega) hL dL_law_959 ?_
  refine k_callPI (k_goV (rest := []) hC hK (c_X4_constant l g x a n f cn rq hc hcn (xs (6 * i + 1)) (xs (6 * i + 2))) L_L_X4_constant ⟨⟨Nat.le_of_ble_eq_true rfl, Nat.le_of_ble_eq_true rfl⟩, ⟨rfl, rfl⟩, ⟨(by show _ ≤ 600000; omega), (by show _ ≤ 7302250; omega)⟩⟩ (hX.recv hK) (hXB) rfl hl.1 rfl (Nat.le_of_ble_eq_true rfl) dL_law_960) ?_
  refine lv_aload_n hx hb dL_law_963 rfl (lvG hl rfl) ?_
  refine lv_aload_n hx hb dL_law_964 rfl (lvG hl rfl) ?_
  refine lv_iload_n hx hb dL_law_965 rfl (lvG hl rfl) ?_
  refine lv_iconst (v := nI 1) hx hb dL_law_966 (by decide) ?_
  refine n_iadd hC dL_law_967 ?_
  refine l_sld hC hXs hbl hS (show 6 * i + 1 < L by omega) hL dL_law_968 ?_
  refine lv_aload_n hx hb dL_law_969 rfl (lvG hl rfl) ?_
  refine lv_iload_n hx hb dL_law_970 rfl (lvG hl rfl) ?_
  refine lv_iconst (v := nI 2) hx hb dL_law_971 (by decide) ?_
  refine n_iadd hC dL_law_972 ?_
  refine l_sld hC hXs hbl hS (show 6 * i + 2 < L by omega) hL dL_law_973 ?_
  refine k_callPI (k_goV (rest := [.int (if s_okC f (xs (6 * i + 1)) ∧ (nI 0 ≤ (xs (6 * i + 2)) ∧ (xs (6 * i + 2)) ≤ nI 20) then s_kc f (s_pt f ((xs (6 * i + 1))).toNatClampNeg) ((xs (6 * i + 2))).toNatClampNeg else cINV)]) hC hK (c_X5_constant l g o q f n (xs (6 * i + 1)) (xs (6 * i + 2)) cn hc hcn) L_L_X5_constant ⟨⟨Nat.le_of_ble_eq_true rfl, Nat.le_of_ble_eq_true rfl⟩, ⟨rfl, rfl⟩, ⟨(by show _ ≤ 600000; omega), (by show _ ≤ 7302250; omega)⟩⟩ (hR.recv hK) hR rfl hl.1 rfl (Nat.le_of_ble_eq_true rfl) dL_law_974) ?_
  refine lv_icmp_eq (tgt := 1216) hx hb dL_law_977 (by decide) (fun _ => ?_) (fun z => absurd rfl z)
  refine W.widen (k := cells + 3) (n := slots + 46) (by omega) (by omega) ?_
  exact kk f n H _ _ ⟨hX, hR, hG, htop⟩ hS hl
set_option maxHeartbeats 4000000 in
set_option maxRecDepth 100000 in
/-- leakage -/
theorem law_27 (hC : CallFix p m c cL_law 4 s #[Value.ref b] lw_good RL) (hK : KK g s) (hXs : va_X b L xs s s.heap) (hbl : b < s.heap.size) (hL : L ≤ 3072) (hi : 6 * i + 6 ≤ L) (hc0 : LC x M o q s.heap.size top) (hJ : LJ g x a M o q top f n H) (hS : va_S (fun z => s.heap.size ≤ z) s.heap H locs) (hcl : cells + 3 ≤ 600000) (hsl : slots + 46 ≤ 7302250) (hl : lv_has ls 4 [(3, .int (nI (6 * i))), (2, .ref o), (1, .ref (x 0)), (0, .ref b)])
    (kk : ∀ (f2 : Nat → Int32) (n2 : Nat) (H2 : Heap) (locs2 : List Loc) (ls2 : Array Slot), LJ g x a M o q top f2 n2 H2 → va_S (fun z => s.heap.size ≤ z) s.heap H2 locs2 → lv_has ls2 4 [(3, .int (nI (6 * i))), (2, .ref o), (1, .ref (x 0)), (0, .ref b)] → W p l e room_1 s m #[Value.ref b] below meth c H2 locs2 (cells + 3) (slots + 46) Q (F0 m 1216 ls2 [])) : W p l e room_1 s m #[Value.ref b] below meth c H locs cells slots Q (F0 m 982 ls []) := by
  have hx := hC.1
  have hb := hC.2.1
  have hml := hC.2.2.1
  obtain ⟨hX, hR, hG, htop⟩ := hJ
  obtain ⟨⟨hGF, ⟨hV8, hV12⟩, hGT, cn, hcn, hc, hGC⟩, -⟩ := id hG
  have hn4 := hX.1
  obtain ⟨rq, hXB, hXS, hback⟩ := hX.q hc hcn
  refine lv_aload_n hx hb dL_law_982 rfl (lvG hl rfl) ?_
  refine lv_aload_n hx hb dL_law_983 rfl (lvG hl rfl) ?_
  refine lv_iload_n hx hb dL_law_984 rfl (lvG hl rfl) ?_
  refine lv_iconst (v := nI 1) hx hb dL_law_985 (by decide) ?_
  refine n_iadd hC dL_law_986 ?_
  refine l_sld hC hXs hbl hS (show 6 * i + 1 < L by omega) hL dL_law_987 ?_
  refine k_callMI0 (k_goV (rest := []) hC hK (c_X4_leakage l g x a n f cn rq hc hcn (xs (6 * i + 1)) (fun j hj => ad_le hGF.2.2.2.2.2.2.1 (hGC j hj).2.2) (fun j hj k hk => kc_in hGF.1 (hGC j hj).2.2 hk)) L_L_X4_leakage ⟨⟨Nat.le_of_ble_eq_true rfl, Nat.le_of_ble_eq_true rfl⟩, ⟨rfl, rfl⟩, ⟨(by show _ ≤ 600000; omega), (by show _ ≤ 7302250; omega)⟩⟩ (hX.recv hK) (⟨hXB, hXS⟩) rfl hl.1 rfl (Nat.le_of_ble_eq_true rfl) dL_law_988) hS (fun z h => (hc0.2.2 z (Or.inr (Or.inl h))).1) (fun r1 H1 locs1 hq1 hz1 hk1 hS1 => ?_)
  obtain ⟨e1, hX1⟩ := hq1
  have hX1 := hback H1 hk1 hX1
  have hR1 := hR.kept hk1 (fun c => (hc0.2.1 _ (Or.inr c)).1 rfl) (fun c => (hc0.2.1 _ (Or.inr c)).2 rfl)
  refine lv_aload_n hx hb dL_law_991 rfl (lvG hl rfl) ?_
  refine lv_aload_n hx hb dL_law_992 rfl (lvG hl rfl) ?_
  refine lv_iload_n hx hb dL_law_993 rfl (lvG hl rfl) ?_
  refine lv_iconst (v := nI 1) hx hb dL_law_994 (by decide) ?_
  refine n_iadd hC dL_law_995 ?_
  refine l_sld hC hXs hbl hS1 (show 6 * i + 1 < L by omega) hL dL_law_996 ?_
  refine k_callPI (k_goV (rest := [.int (r1)]) hC hK (c_X5_leakage l g o q f n (xs (6 * i + 1)) cn hc hcn (fun j hj => ad_le hGF.2.2.2.2.2.2.1 (hGC j hj).2.2)) L_L_X5_leakage ⟨⟨Nat.le_of_ble_eq_true rfl, Nat.le_of_ble_eq_true rfl⟩, ⟨rfl, rfl⟩, ⟨(by show _ ≤ 600000; omega), (by show _ ≤ 7302250; omega)⟩⟩ (hR1.recv hK) hR1 rfl hl.1 rfl (Nat.le_of_ble_eq_true rfl) dL_law_997) ?_
  refine lv_icmp_eq (tgt := 1216) hx hb dL_law_1000 (by decide) (fun _ => ?_) (fun z => absurd e1 z)
  refine W.widen (k := cells + 3) (n := slots + 46) (by omega) (by omega) ?_
  exact kk f n H1 _ _ ⟨hX1, hR1, hG, (Nat.le_trans htop hz1)⟩ hS1 hl
set_option maxHeartbeats 4000000 in
set_option maxRecDepth 100000 in
/-- cardsOf -/
theorem law_28 (hC : CallFix p m c cL_law 4 s #[Value.ref b] lw_good RL) (hK : KK g s) (hXs : va_X b L xs s s.heap) (hbl : b < s.heap.size) (hL : L ≤ 3072) (hi : 6 * i + 6 ≤ L) (hc0 : LC x M o q s.heap.size top) (hJ : LJ g x a M o q top f n H) (hS : va_S (fun z => s.heap.size ≤ z) s.heap H locs) (hcl : cells + 3 ≤ 600000) (hsl : slots + 46 ≤ 7302250) (hl : lv_has ls 4 [(3, .int (nI (6 * i))), (2, .ref o), (1, .ref (x 0)), (0, .ref b)])
    (kk : ∀ (f2 : Nat → Int32) (n2 : Nat) (H2 : Heap) (locs2 : List Loc) (ls2 : Array Slot), LJ g x a M o q top f2 n2 H2 → va_S (fun z => s.heap.size ≤ z) s.heap H2 locs2 → lv_has ls2 4 [(3, .int (nI (6 * i))), (2, .ref o), (1, .ref (x 0)), (0, .ref b)] → W p l e room_1 s m #[Value.ref b] below meth c H2 locs2 (cells + 3) (slots + 46) Q (F0 m 1216 ls2 [])) : W p l e room_1 s m #[Value.ref b] below meth c H locs cells slots Q (F0 m 1005 ls []) := by
  have hx := hC.1
  have hb := hC.2.1
  have hml := hC.2.2.1
  obtain ⟨hX, hR, hG, htop⟩ := hJ
  obtain ⟨⟨hGF, ⟨hV8, hV12⟩, hGT, cn, hcn, hc, hGC⟩, -⟩ := id hG
  have hn4 := hX.1
  obtain ⟨rq, hXB, hXS, hback⟩ := hX.q hc hcn
  refine lv_aload_n hx hb dL_law_1005 rfl (lvG hl rfl) ?_
  refine lv_aload_n hx hb dL_law_1006 rfl (lvG hl rfl) ?_
  refine lv_iload_n hx hb dL_law_1007 rfl (lvG hl rfl) ?_
  refine lv_iconst (v := nI 1) hx hb dL_law_1008 (by decide) ?_
  refine n_iadd hC dL_law_1009 ?_
  refine l_sld hC hXs hbl hS (show 6 * i + 1 < L by omega) hL dL_law_1010 ?_
  refine k_callPI (k_goV (rest := []) hC hK (c_X4_cardsOf l g x a n f cn rq hc hcn (xs (6 * i + 1))) L_L_X4_cardsOf ⟨⟨Nat.le_of_ble_eq_true rfl, Nat.le_of_ble_eq_true rfl⟩, ⟨rfl, rfl⟩, ⟨(by show _ ≤ 600000; omega), (by show _ ≤ 7302250; omega)⟩⟩ (hX.recv hK) (hXB) rfl hl.1 rfl (Nat.le_of_ble_eq_true rfl) dL_law_1011) ?_
  refine lv_aload_n hx hb dL_law_1014 rfl (lvG hl rfl) ?_
  refine lv_aload_n hx hb dL_law_1015 rfl (lvG hl rfl) ?_
  refine lv_iload_n hx hb dL_law_1016 rfl (lvG hl rfl) ?_
  refine lv_iconst (v := nI 1) hx hb dL_law_1017 (by decide) ?_
  refine n_iadd hC dL_law_1018 ?_
  refine l_sld hC hXs hbl hS (show 6 * i + 1 < L by omega) hL dL_law_1019 ?_
  refine k_callPI (k_goV (rest := [.int (if nI 0 ≤ (xs (6 * i + 1)) ∧ (xs (6 * i + 1)) ≤ nI 1 then nI (s_mn f (xs (6 * i + 1)) cn) else cINV)]) hC hK (c_X5_cardsOf l g o q f n (xs (6 * i + 1)) cn hc hcn) L_L_X5_cardsOf ⟨⟨Nat.le_of_ble_eq_true rfl, Nat.le_of_ble_eq_true rfl⟩, ⟨rfl, rfl⟩, ⟨(by show _ ≤ 600000; omega), (by show _ ≤ 7302250; omega)⟩⟩ (hR.recv hK) hR rfl hl.1 rfl (Nat.le_of_ble_eq_true rfl) dL_law_1020) ?_
  refine lv_icmp_eq (tgt := 1216) hx hb dL_law_1023 (by decide) (fun _ => ?_) (fun z => absurd rfl z)
  refine W.widen (k := cells + 3) (n := slots + 46) (by omega) (by omega) ?_
  exact kk f n H _ _ ⟨hX, hR, hG, htop⟩ hS hl
set_option maxHeartbeats 4000000 in
set_option maxRecDepth 100000 in
/-- meanArea -/
theorem law_29 (hC : CallFix p m c cL_law 4 s #[Value.ref b] lw_good RL) (hK : KK g s) (hXs : va_X b L xs s s.heap) (hbl : b < s.heap.size) (hL : L ≤ 3072) (hi : 6 * i + 6 ≤ L) (hc0 : LC x M o q s.heap.size top) (hJ : LJ g x a M o q top f n H) (hS : va_S (fun z => s.heap.size ≤ z) s.heap H locs) (hcl : cells + 3 ≤ 600000) (hsl : slots + 46 ≤ 7302250) (hl : lv_has ls 4 [(3, .int (nI (6 * i))), (2, .ref o), (1, .ref (x 0)), (0, .ref b)])
    (kk : ∀ (f2 : Nat → Int32) (n2 : Nat) (H2 : Heap) (locs2 : List Loc) (ls2 : Array Slot), LJ g x a M o q top f2 n2 H2 → va_S (fun z => s.heap.size ≤ z) s.heap H2 locs2 → lv_has ls2 4 [(3, .int (nI (6 * i))), (2, .ref o), (1, .ref (x 0)), (0, .ref b)] → W p l e room_1 s m #[Value.ref b] below meth c H2 locs2 (cells + 3) (slots + 46) Q (F0 m 1216 ls2 [])) : W p l e room_1 s m #[Value.ref b] below meth c H locs cells slots Q (F0 m 1028 ls []) := by
  have hx := hC.1
  have hb := hC.2.1
  have hml := hC.2.2.1
  obtain ⟨hX, hR, hG, htop⟩ := hJ
  obtain ⟨⟨hGF, ⟨hV8, hV12⟩, hGT, cn, hcn, hc, hGC⟩, -⟩ := id hG
  have hn4 := hX.1
  obtain ⟨rq, hXB, hXS, hback⟩ := hX.q hc hcn
  refine lv_aload_n hx hb dL_law_1028 rfl (lvG hl rfl) ?_
  refine lv_aload_n hx hb dL_law_1029 rfl (lvG hl rfl) ?_
  refine lv_iload_n hx hb dL_law_1030 rfl (lvG hl rfl) ?_
  refine lv_iconst (v := nI 1) hx hb dL_law_1031 (by decide) ?_
  refine n_iadd hC dL_law_1032 ?_
  refine l_sld hC hXs hbl hS (show 6 * i + 1 < L by omega) hL dL_law_1033 ?_
  refine k_callMI0 (k_goV (rest := []) hC hK (c_X4_meanArea l g x a n f cn rq hc hcn (xs (6 * i + 1)) (fun j hj k hk => (hGC j hj).2.2 k hk)) L_L_X4_meanArea ⟨⟨Nat.le_of_ble_eq_true rfl, Nat.le_of_ble_eq_true rfl⟩, ⟨rfl, rfl⟩, ⟨(by show _ ≤ 600000; omega), (by show _ ≤ 7302250; omega)⟩⟩ (hX.recv hK) (⟨hXB, hXS⟩) rfl hl.1 rfl (Nat.le_of_ble_eq_true rfl) dL_law_1034) hS (fun z h => (hc0.2.2 z (Or.inr (Or.inl h))).1) (fun r1 H1 locs1 hq1 hz1 hk1 hS1 => ?_)
  obtain ⟨e1, hX1⟩ := hq1
  have hX1 := hback H1 hk1 hX1
  have hR1 := hR.kept hk1 (fun c => (hc0.2.1 _ (Or.inr c)).1 rfl) (fun c => (hc0.2.1 _ (Or.inr c)).2 rfl)
  refine lv_aload_n hx hb dL_law_1037 rfl (lvG hl rfl) ?_
  refine lv_aload_n hx hb dL_law_1038 rfl (lvG hl rfl) ?_
  refine lv_iload_n hx hb dL_law_1039 rfl (lvG hl rfl) ?_
  refine lv_iconst (v := nI 1) hx hb dL_law_1040 (by decide) ?_
  refine n_iadd hC dL_law_1041 ?_
  refine l_sld hC hXs hbl hS1 (show 6 * i + 1 < L by omega) hL dL_law_1042 ?_
  refine k_callMI0 (k_goV (rest := [.int (r1)]) hC hK (c_X5_meanArea l g o q f n (xs (6 * i + 1)) cn hc hcn) L_L_X5_meanArea ⟨⟨Nat.le_of_ble_eq_true rfl, Nat.le_of_ble_eq_true rfl⟩, ⟨rfl, rfl⟩, ⟨(by show _ ≤ 600000; omega), (by show _ ≤ 7302250; omega)⟩⟩ (hR1.recv hK) hR1 rfl hl.1 rfl (Nat.le_of_ble_eq_true rfl) dL_law_1043) hS1 (fun z h => h.elim (fun e => e ▸ hc0.oo.1) (fun e => e ▸ hc0.qq.1)) (fun r2 H2 locs2 hq2 hz2 hk2 hS2 => ?_)
  obtain ⟨e2, hR2⟩ := hq2
  have hX2 := hX1.ref hc0 hk2
  obtain ⟨F2, eF2, hR2⟩ := hR2
  refine lv_icmp_eq (tgt := 1216) hx hb dL_law_1046 (by decide) (fun _ => ?_) (fun z => absurd (e1.trans e2.symm) z)
  refine W.widen (k := cells + 3) (n := slots + 46) (by omega) (by omega) ?_
  exact kk F2 n H2 _ _ ⟨hX2.congr (fun j hj => (eF2 j hj).symm), hR2, hG.congr hn4 (fun j hj => (eF2 j hj).symm), (Nat.le_trans (Nat.le_trans htop hz1) hz2)⟩ hS2 hl
set_option maxHeartbeats 4000000 in
set_option maxRecDepth 100000 in
/-- meanPower -/
theorem law_30 (hC : CallFix p m c cL_law 4 s #[Value.ref b] lw_good RL) (hK : KK g s) (hXs : va_X b L xs s s.heap) (hbl : b < s.heap.size) (hL : L ≤ 3072) (hi : 6 * i + 6 ≤ L) (hc0 : LC x M o q s.heap.size top) (hJ : LJ g x a M o q top f n H) (hS : va_S (fun z => s.heap.size ≤ z) s.heap H locs) (hcl : cells + 3 ≤ 600000) (hsl : slots + 46 ≤ 7302250) (hl : lv_has ls 4 [(3, .int (nI (6 * i))), (2, .ref o), (1, .ref (x 0)), (0, .ref b)])
    (kk : ∀ (f2 : Nat → Int32) (n2 : Nat) (H2 : Heap) (locs2 : List Loc) (ls2 : Array Slot), LJ g x a M o q top f2 n2 H2 → va_S (fun z => s.heap.size ≤ z) s.heap H2 locs2 → lv_has ls2 4 [(3, .int (nI (6 * i))), (2, .ref o), (1, .ref (x 0)), (0, .ref b)] → W p l e room_1 s m #[Value.ref b] below meth c H2 locs2 (cells + 3) (slots + 46) Q (F0 m 1216 ls2 [])) : W p l e room_1 s m #[Value.ref b] below meth c H locs cells slots Q (F0 m 1051 ls []) := by
  have hx := hC.1
  have hb := hC.2.1
  have hml := hC.2.2.1
  obtain ⟨hX, hR, hG, htop⟩ := hJ
  obtain ⟨⟨hGF, ⟨hV8, hV12⟩, hGT, cn, hcn, hc, hGC⟩, -⟩ := id hG
  have hn4 := hX.1
  obtain ⟨rq, hXB, hXS, hback⟩ := hX.q hc hcn
  refine lv_aload_n hx hb dL_law_1051 rfl (lvG hl rfl) ?_
  refine lv_aload_n hx hb dL_law_1052 rfl (lvG hl rfl) ?_
  refine lv_iload_n hx hb dL_law_1053 rfl (lvG hl rfl) ?_
  refine lv_iconst (v := nI 1) hx hb dL_law_1054 (by decide) ?_
  refine n_iadd hC dL_law_1055 ?_
  refine l_sld hC hXs hbl hS (show 6 * i + 1 < L by omega) hL dL_law_1056 ?_
  refine k_callPL (k_goV (rest := []) hC hK (c_X4_meanPower l g x a n f cn rq hc hcn (xs (6 * i + 1)) (en_of hGC)) L_L_X4_meanPower ⟨⟨Nat.le_of_ble_eq_true rfl, Nat.le_of_ble_eq_true rfl⟩, ⟨rfl, rfl⟩, ⟨(by show _ ≤ 600000; omega), (by show _ ≤ 7302250; omega)⟩⟩ (hX.recv hK) (hXB) rfl hl.1 rfl (Nat.le_of_ble_eq_true rfl) dL_law_1057) ?_
  refine lv_aload_n hx hb dL_law_1060 rfl (lvG hl rfl) ?_
  refine lv_aload_n hx hb dL_law_1061 rfl (lvG hl rfl) ?_
  refine lv_iload_n hx hb dL_law_1062 rfl (lvG hl rfl) ?_
  refine lv_iconst (v := nI 1) hx hb dL_law_1063 (by decide) ?_
  refine n_iadd hC dL_law_1064 ?_
  refine l_sld hC hXs hbl hS (show 6 * i + 1 < L by omega) hL dL_law_1065 ?_
  refine k_callPL (k_goV (rest := [.long (if nI 0 ≤ (xs (6 * i + 1)) ∧ (xs (6 * i + 1)) ≤ nI 1 then (if s_mn f (xs (6 * i + 1)) cn = 0 then (-2000000004 : Int64) else s_mp f (xs (6 * i + 1)) cn) else (-2000000001 : Int64))]) hC hK (c_X5_meanPower l g o q f n (xs (6 * i + 1)) cn hc hcn (en_of hGC)) L_L_X5_meanPower ⟨⟨Nat.le_of_ble_eq_true rfl, Nat.le_of_ble_eq_true rfl⟩, ⟨rfl, rfl⟩, ⟨(by show _ ≤ 600000; omega), (by show _ ≤ 7302250; omega)⟩⟩ (hR.recv hK) hR rfl hl.1 rfl (Nat.le_of_ble_eq_true rfl) dL_law_1066) ?_
  refine j_leq (tgt := 1216) hC dL_law_1069 dL_law_1070 (by decide) (fun _ => ?_) (fun z => absurd rfl z)
  refine W.widen (k := cells + 3) (n := slots + 46) (by omega) (by omega) ?_
  exact kk f n H _ _ ⟨hX, hR, hG, htop⟩ hS hl
set_option maxHeartbeats 4000000 in
set_option maxRecDepth 100000 in
/-- imbalance -/
theorem law_31 (hC : CallFix p m c cL_law 4 s #[Value.ref b] lw_good RL) (hK : KK g s) (hXs : va_X b L xs s s.heap) (hbl : b < s.heap.size) (hL : L ≤ 3072) (hi : 6 * i + 6 ≤ L) (hc0 : LC x M o q s.heap.size top) (hJ : LJ g x a M o q top f n H) (hS : va_S (fun z => s.heap.size ≤ z) s.heap H locs) (hcl : cells + 3 ≤ 600000) (hsl : slots + 46 ≤ 7302250) (hl : lv_has ls 4 [(3, .int (nI (6 * i))), (2, .ref o), (1, .ref (x 0)), (0, .ref b)])
    (kk : ∀ (f2 : Nat → Int32) (n2 : Nat) (H2 : Heap) (locs2 : List Loc) (ls2 : Array Slot), LJ g x a M o q top f2 n2 H2 → va_S (fun z => s.heap.size ≤ z) s.heap H2 locs2 → lv_has ls2 4 [(3, .int (nI (6 * i))), (2, .ref o), (1, .ref (x 0)), (0, .ref b)] → W p l e room_1 s m #[Value.ref b] below meth c H2 locs2 (cells + 3) (slots + 46) Q (F0 m 1216 ls2 [])) : W p l e room_1 s m #[Value.ref b] below meth c H locs cells slots Q (F0 m 1075 ls []) := by
  have hx := hC.1
  have hb := hC.2.1
  have hml := hC.2.2.1
  obtain ⟨hX, hR, hG, htop⟩ := hJ
  obtain ⟨⟨hGF, ⟨hV8, hV12⟩, hGT, cn, hcn, hc, hGC⟩, -⟩ := id hG
  have hn4 := hX.1
  obtain ⟨rq, hXB, hXS, hback⟩ := hX.q hc hcn
  refine lv_aload_n hx hb dL_law_1075 rfl (lvG hl rfl) ?_
  refine k_callPI (k_goV (rest := []) hC hK (c_X4_imbalance l g x a n f cn rq hc hcn (en_of hGC) (mp_in hGF hcn hGC (nI 0)) (mp_in hGF hcn hGC (nI 1))) L_L_X4_imbalance ⟨⟨Nat.le_of_ble_eq_true rfl, Nat.le_of_ble_eq_true rfl⟩, ⟨rfl, rfl⟩, ⟨(by show _ ≤ 600000; omega), (by show _ ≤ 7302250; omega)⟩⟩ (hX.recv hK) (hXB) rfl hl.1 rfl (Nat.le_of_ble_eq_true rfl) dL_law_1076) ?_
  refine lv_aload_n hx hb dL_law_1079 rfl (lvG hl rfl) ?_
  refine k_callPI (k_goV (rest := [.int (s_im f cn)]) hC hK (c_X5_imbalance l g o q f n cn hc hcn (en_of hGC)) L_L_X5_imbalance ⟨⟨Nat.le_of_ble_eq_true rfl, Nat.le_of_ble_eq_true rfl⟩, ⟨rfl, rfl⟩, ⟨(by show _ ≤ 600000; omega), (by show _ ≤ 7302250; omega)⟩⟩ (hR.recv hK) hR rfl hl.1 rfl (Nat.le_of_ble_eq_true rfl) dL_law_1080) ?_
  refine lv_icmp_eq (tgt := 1216) hx hb dL_law_1083 (by decide) (fun _ => ?_) (fun z => absurd rfl z)
  refine W.widen (k := cells + 3) (n := slots + 46) (by omega) (by omega) ?_
  exact kk f n H _ _ ⟨hX, hR, hG, htop⟩ hS hl
set_option maxHeartbeats 4000000 in
set_option maxRecDepth 100000 in
/-- removeOutliers -/
theorem law_32 (hC : CallFix p m c cL_law 4 s #[Value.ref b] lw_good RL) (hK : KK g s) (hXs : va_X b L xs s s.heap) (hbl : b < s.heap.size) (hL : L ≤ 3072) (hi : 6 * i + 6 ≤ L) (hc0 : LC x M o q s.heap.size top) (hJ : LJ g x a M o q top f n H) (hS : va_S (fun z => s.heap.size ≤ z) s.heap H locs) (hcl : cells + 3 ≤ 600000) (hsl : slots + 46 ≤ 7302250) (hl : lv_has ls 4 [(3, .int (nI (6 * i))), (2, .ref o), (1, .ref (x 0)), (0, .ref b)])
    (kk : ∀ (f2 : Nat → Int32) (n2 : Nat) (H2 : Heap) (locs2 : List Loc) (ls2 : Array Slot), LJ g x a M o q top f2 n2 H2 → va_S (fun z => s.heap.size ≤ z) s.heap H2 locs2 → lv_has ls2 4 [(3, .int (nI (6 * i))), (2, .ref o), (1, .ref (x 0)), (0, .ref b)] → W p l e room_1 s m #[Value.ref b] below meth c H2 locs2 (cells + 3) (slots + 46) Q (F0 m 1216 ls2 [])) : W p l e room_1 s m #[Value.ref b] below meth c H locs cells slots Q (F0 m 1088 ls []) := by
  have hx := hC.1
  have hb := hC.2.1
  have hml := hC.2.2.1
  obtain ⟨hX, hR, hG, htop⟩ := hJ
  obtain ⟨⟨hGF, ⟨hV8, hV12⟩, hGT, cn, hcn, hc, hGC⟩, -⟩ := id hG
  have hn4 := hX.1
  obtain ⟨rq, hXB, hXS, hback⟩ := hX.q hc hcn
  refine lv_aload_n hx hb dL_law_1088 rfl (lvG hl rfl) ?_
  refine lv_aload_n hx hb dL_law_1089 rfl (lvG hl rfl) ?_
  refine lv_iload_n hx hb dL_law_1090 rfl (lvG hl rfl) ?_
  refine lv_iconst (v := nI 1) hx hb dL_law_1091 (by decide) ?_
  refine n_iadd hC dL_law_1092 ?_
  refine l_sld hC hXs hbl hS (show 6 * i + 1 < L by omega) hL dL_law_1093 ?_
  refine lv_aload_n hx hb dL_law_1094 rfl (lvG hl rfl) ?_
  refine lv_iload_n hx hb dL_law_1095 rfl (lvG hl rfl) ?_
  refine lv_iconst (v := nI 2) hx hb dL_law_1096 (by decide) ?_
  refine n_iadd hC dL_law_1097 ?_
  refine l_sld hC hXs hbl hS (show 6 * i + 2 < L by omega) hL dL_law_1098 ?_
  refine k_callMI0 (k_goV (rest := []) hC hK (c_X4_removeOutliers l g x a M f n cn hc hcn (xs (6 * i + 1)) (xs (6 * i + 2))) L_L_X4_removeOutliers ⟨⟨Nat.le_of_ble_eq_true rfl, Nat.le_of_ble_eq_true rfl⟩, ⟨rfl, rfl⟩, ⟨(by show _ ≤ 600000; omega), (by show _ ≤ 7302250; omega)⟩⟩ (hX.recv hK) hX rfl hl.1 rfl (Nat.le_of_ble_eq_true rfl) dL_law_1099) hS (fun z h => (hc0.2.2 z h.u).1) (fun r1 H1 locs1 hq1 hz1 hk1 hS1 => ?_)
  obtain ⟨e1, hX1⟩ := hq1
  have hR1 := hR.kept hk1 (fun c => (hc0.2.1 _ c).1 rfl) (fun c => (hc0.2.1 _ c).2 rfl)
  refine lv_aload_n hx hb dL_law_1102 rfl (lvG hl rfl) ?_
  refine lv_aload_n hx hb dL_law_1103 rfl (lvG hl rfl) ?_
  refine lv_iload_n hx hb dL_law_1104 rfl (lvG hl rfl) ?_
  refine lv_iconst (v := nI 1) hx hb dL_law_1105 (by decide) ?_
  refine n_iadd hC dL_law_1106 ?_
  refine l_sld hC hXs hbl hS1 (show 6 * i + 1 < L by omega) hL dL_law_1107 ?_
  refine lv_aload_n hx hb dL_law_1108 rfl (lvG hl rfl) ?_
  refine lv_iload_n hx hb dL_law_1109 rfl (lvG hl rfl) ?_
  refine lv_iconst (v := nI 2) hx hb dL_law_1110 (by decide) ?_
  refine n_iadd hC dL_law_1111 ?_
  refine l_sld hC hXs hbl hS1 (show 6 * i + 2 < L by omega) hL dL_law_1112 ?_
  refine k_callMI0 (k_goV (rest := [.int (r1)]) hC hK (c_X5_removeOutliers l g o q f n (xs (6 * i + 1)) (xs (6 * i + 2)) cn hc hcn) L_L_X5_removeOutliers ⟨⟨Nat.le_of_ble_eq_true rfl, Nat.le_of_ble_eq_true rfl⟩, ⟨rfl, rfl⟩, ⟨(by show _ ≤ 600000; omega), (by show _ ≤ 7302250; omega)⟩⟩ (hR1.recv hK) hR1 rfl hl.1 rfl (Nat.le_of_ble_eq_true rfl) dL_law_1113) hS1 (fun z h => h.elim (fun e => e ▸ hc0.oo.1) (fun e => e ▸ hc0.qq.1)) (fun r2 H2 locs2 hq2 hz2 hk2 hS2 => ?_)
  obtain ⟨e2, hR2⟩ := hq2
  have hX2 := hX1.ref hc0 hk2
  refine lv_icmp_eq (tgt := 1216) hx hb dL_law_1116 (by decide) (fun _ => ?_) (fun z => absurd (e1.trans e2.symm) z)
  refine W.widen (k := cells + 3) (n := slots + 46) (by omega) (by omega) ?_
  exact kk _ _ H2 _ _ ⟨hX2, hR2, hG.ro hn4 hc hcn, (Nat.le_trans (Nat.le_trans htop hz1) hz2)⟩ hS2 hl
set_option maxHeartbeats 4000000 in
set_option maxRecDepth 100000 in
/-- idealArea -/
theorem law_33 (hC : CallFix p m c cL_law 4 s #[Value.ref b] lw_good RL) (hK : KK g s) (hXs : va_X b L xs s s.heap) (hbl : b < s.heap.size) (hL : L ≤ 3072) (hi : 6 * i + 6 ≤ L) (hc0 : LC x M o q s.heap.size top) (hJ : LJ g x a M o q top f n H) (hS : va_S (fun z => s.heap.size ≤ z) s.heap H locs) (hcl : cells + 3 ≤ 600000) (hsl : slots + 46 ≤ 7302250) (hl : lv_has ls 4 [(3, .int (nI (6 * i))), (2, .ref o), (1, .ref (x 0)), (0, .ref b)])
    (kk : ∀ (f2 : Nat → Int32) (n2 : Nat) (H2 : Heap) (locs2 : List Loc) (ls2 : Array Slot), LJ g x a M o q top f2 n2 H2 → va_S (fun z => s.heap.size ≤ z) s.heap H2 locs2 → lv_has ls2 4 [(3, .int (nI (6 * i))), (2, .ref o), (1, .ref (x 0)), (0, .ref b)] → W p l e room_1 s m #[Value.ref b] below meth c H2 locs2 (cells + 3) (slots + 46) Q (F0 m 1216 ls2 [])) : W p l e room_1 s m #[Value.ref b] below meth c H locs cells slots Q (F0 m 1121 ls []) := by
  have hx := hC.1
  have hb := hC.2.1
  have hml := hC.2.2.1
  obtain ⟨hX, hR, hG, htop⟩ := hJ
  obtain ⟨⟨hGF, ⟨hV8, hV12⟩, hGT, cn, hcn, hc, hGC⟩, -⟩ := id hG
  have hn4 := hX.1
  obtain ⟨rq, hXB, hXS, hback⟩ := hX.q hc hcn
  refine lv_aload_n hx hb dL_law_1121 rfl (lvG hl rfl) ?_
  refine lv_aload_n hx hb dL_law_1122 rfl (lvG hl rfl) ?_
  refine lv_iload_n hx hb dL_law_1123 rfl (lvG hl rfl) ?_
  refine lv_iconst (v := nI 1) hx hb dL_law_1124 (by decide) ?_
  refine n_iadd hC dL_law_1125 ?_
  refine l_sld hC hXs hbl hS (show 6 * i + 1 < L by omega) hL dL_law_1126 ?_
  refine k_callMI0 (k_goV (rest := []) hC hK (c_X4_idealArea l g x a n f cn rq hc hcn (xs (6 * i + 1))) L_L_X4_idealArea ⟨⟨Nat.le_of_ble_eq_true rfl, Nat.le_of_ble_eq_true rfl⟩, ⟨rfl, rfl⟩, ⟨(by show _ ≤ 600000; omega), (by show _ ≤ 7302250; omega)⟩⟩ (hX.recv hK) (⟨hXB, hXS⟩) rfl hl.1 rfl (Nat.le_of_ble_eq_true rfl) dL_law_1127) hS (fun z h => (hc0.2.2 z (Or.inr (Or.inl h))).1) (fun r1 H1 locs1 hq1 hz1 hk1 hS1 => ?_)
  obtain ⟨e1, hX1⟩ := hq1
  have hX1 := hback H1 hk1 hX1
  have hR1 := hR.kept hk1 (fun c => (hc0.2.1 _ (Or.inr c)).1 rfl) (fun c => (hc0.2.1 _ (Or.inr c)).2 rfl)
  refine lv_aload_n hx hb dL_law_1130 rfl (lvG hl rfl) ?_
  refine lv_aload_n hx hb dL_law_1131 rfl (lvG hl rfl) ?_
  refine lv_iload_n hx hb dL_law_1132 rfl (lvG hl rfl) ?_
  refine lv_iconst (v := nI 1) hx hb dL_law_1133 (by decide) ?_
  refine n_iadd hC dL_law_1134 ?_
  refine l_sld hC hXs hbl hS1 (show 6 * i + 1 < L by omega) hL dL_law_1135 ?_
  refine k_callMI0 (k_goV (rest := [.int (r1)]) hC hK (c_X5_idealArea l g o q f n (xs (6 * i + 1)) (vol_ok hGF.1) (vr_ok hV8 hV12)) L_L_X5_idealArea ⟨⟨Nat.le_of_ble_eq_true rfl, Nat.le_of_ble_eq_true rfl⟩, ⟨rfl, rfl⟩, ⟨(by show _ ≤ 600000; omega), (by show _ ≤ 7302250; omega)⟩⟩ (hR1.recv hK) hR1 rfl hl.1 rfl (Nat.le_of_ble_eq_true rfl) dL_law_1136) hS1 (fun z h => h.elim (fun e => e ▸ hc0.oo.1) (fun e => e ▸ hc0.qq.1)) (fun r2 H2 locs2 hq2 hz2 hk2 hS2 => ?_)
  obtain ⟨e2, hR2⟩ := hq2
  have hX2 := hX1.ref hc0 hk2
  obtain ⟨F2, eF2, hR2⟩ := hR2
  refine lv_icmp_eq (tgt := 1216) hx hb dL_law_1139 (by decide) (fun _ => ?_) (fun z => absurd (e1.trans ((ia_eq hGF hV8 hV12 _).trans e2.symm)) z)
  refine W.widen (k := cells + 3) (n := slots + 46) (by omega) (by omega) ?_
  exact kk F2 n H2 _ _ ⟨hX2.congr (fun j hj => (eF2 j hj).symm), hR2, hG.congr hn4 (fun j hj => (eF2 j hj).symm), (Nat.le_trans (Nat.le_trans htop hz1) hz2)⟩ hS2 hl
set_option maxHeartbeats 4000000 in
set_option maxRecDepth 100000 in
/-- bestCutOff -/
theorem law_34 (hC : CallFix p m c cL_law 4 s #[Value.ref b] lw_good RL) (hK : KK g s) (hXs : va_X b L xs s s.heap) (hbl : b < s.heap.size) (hL : L ≤ 3072) (hi : 6 * i + 6 ≤ L) (hc0 : LC x M o q s.heap.size top) (hJ : LJ g x a M o q top f n H) (hS : va_S (fun z => s.heap.size ≤ z) s.heap H locs) (hcl : cells + 3 ≤ 600000) (hsl : slots + 46 ≤ 7302250) (hl : lv_has ls 4 [(3, .int (nI (6 * i))), (2, .ref o), (1, .ref (x 0)), (0, .ref b)])
    (kk : ∀ (f2 : Nat → Int32) (n2 : Nat) (H2 : Heap) (locs2 : List Loc) (ls2 : Array Slot), LJ g x a M o q top f2 n2 H2 → va_S (fun z => s.heap.size ≤ z) s.heap H2 locs2 → lv_has ls2 4 [(3, .int (nI (6 * i))), (2, .ref o), (1, .ref (x 0)), (0, .ref b)] → W p l e room_1 s m #[Value.ref b] below meth c H2 locs2 (cells + 3) (slots + 46) Q (F0 m 1216 ls2 [])) : W p l e room_1 s m #[Value.ref b] below meth c H locs cells slots Q (F0 m 1144 ls []) := by
  have hx := hC.1
  have hb := hC.2.1
  have hml := hC.2.2.1
  obtain ⟨hX, hR, hG, htop⟩ := hJ
  obtain ⟨⟨hGF, ⟨hV8, hV12⟩, hGT, cn, hcn, hc, hGC⟩, -⟩ := id hG
  have hn4 := hX.1
  obtain ⟨rq, hXB, hXS, hback⟩ := hX.q hc hcn
  refine lv_aload_n hx hb dL_law_1144 rfl (lvG hl rfl) ?_
  refine lv_aload_n hx hb dL_law_1145 rfl (lvG hl rfl) ?_
  refine lv_iload_n hx hb dL_law_1146 rfl (lvG hl rfl) ?_
  refine lv_iconst (v := nI 1) hx hb dL_law_1147 (by decide) ?_
  refine n_iadd hC dL_law_1148 ?_
  refine l_sld hC hXs hbl hS (show 6 * i + 1 < L by omega) hL dL_law_1149 ?_
  refine lv_aload_n hx hb dL_law_1150 rfl (lvG hl rfl) ?_
  refine lv_iload_n hx hb dL_law_1151 rfl (lvG hl rfl) ?_
  refine lv_iconst (v := nI 2) hx hb dL_law_1152 (by decide) ?_
  refine n_iadd hC dL_law_1153 ?_
  refine l_sld hC hXs hbl hS (show 6 * i + 2 < L by omega) hL dL_law_1154 ?_
  refine k_callMI0 (k_goV (rest := []) hC hK (c_X4_bestCutOff l g x a n f cn rq hc hcn (xs (6 * i + 1)) (xs (6 * i + 2))) L_L_X4_bestCutOff ⟨⟨Nat.le_of_ble_eq_true rfl, Nat.le_of_ble_eq_true rfl⟩, ⟨rfl, rfl⟩, ⟨(by show _ ≤ 600000; omega), (by show _ ≤ 7302250; omega)⟩⟩ (hX.recv hK) (⟨hXB, hXS⟩) rfl hl.1 rfl (Nat.le_of_ble_eq_true rfl) dL_law_1155) hS (fun z h => (hc0.2.2 z (Or.inr (Or.inl h))).1) (fun r1 H1 locs1 hq1 hz1 hk1 hS1 => ?_)
  obtain ⟨e1, hX1⟩ := hq1
  have hX1 := hback H1 hk1 hX1
  have hR1 := hR.kept hk1 (fun c => (hc0.2.1 _ (Or.inr c)).1 rfl) (fun c => (hc0.2.1 _ (Or.inr c)).2 rfl)
  refine lv_aload_n hx hb dL_law_1158 rfl (lvG hl rfl) ?_
  refine lv_aload_n hx hb dL_law_1159 rfl (lvG hl rfl) ?_
  refine lv_iload_n hx hb dL_law_1160 rfl (lvG hl rfl) ?_
  refine lv_iconst (v := nI 1) hx hb dL_law_1161 (by decide) ?_
  refine n_iadd hC dL_law_1162 ?_
  refine l_sld hC hXs hbl hS1 (show 6 * i + 1 < L by omega) hL dL_law_1163 ?_
  refine lv_aload_n hx hb dL_law_1164 rfl (lvG hl rfl) ?_
  refine lv_iload_n hx hb dL_law_1165 rfl (lvG hl rfl) ?_
  refine lv_iconst (v := nI 2) hx hb dL_law_1166 (by decide) ?_
  refine n_iadd hC dL_law_1167 ?_
  refine l_sld hC hXs hbl hS1 (show 6 * i + 2 < L by omega) hL dL_law_1168 ?_
  refine k_callMI0 (k_goV (rest := [.int (r1)]) hC hK (c_X5_bestCutOff l g o q f n (xs (6 * i + 1)) (xs (6 * i + 2)) (vol_ok hGF.1) (vr_ok hV8 hV12)) L_L_X5_bestCutOff ⟨⟨Nat.le_of_ble_eq_true rfl, Nat.le_of_ble_eq_true rfl⟩, ⟨rfl, rfl⟩, ⟨(by show _ ≤ 600000; omega), (by show _ ≤ 7302250; omega)⟩⟩ (hR1.recv hK) hR1 rfl hl.1 rfl (Nat.le_of_ble_eq_true rfl) dL_law_1169) hS1 (fun z h => h.elim (fun e => e ▸ hc0.oo.1) (fun e => e ▸ hc0.qq.1)) (fun r2 H2 locs2 hq2 hz2 hk2 hS2 => ?_)
  obtain ⟨e2, hR2⟩ := hq2
  have hX2 := hX1.ref hc0 hk2
  obtain ⟨F2, eF2, hR2⟩ := hR2
  refine lv_icmp_eq (tgt := 1216) hx hb dL_law_1172 (by decide) (fun _ => ?_) (fun z => absurd (e1.trans ((bco_eq hGF hV8 hV12 _ _).trans e2.symm)) z)
  refine W.widen (k := cells + 3) (n := slots + 46) (by omega) (by omega) ?_
  exact kk F2 n H2 _ _ ⟨hX2.congr (fun j hj => (eF2 j hj).symm), hR2, hG.congr hn4 (fun j hj => (eF2 j hj).symm), (Nat.le_trans (Nat.le_trans htop hz1) hz2)⟩ hS2 hl
set_option maxHeartbeats 4000000 in
set_option maxRecDepth 100000 in
/-- balancingCutOff -/
theorem law_35 (hC : CallFix p m c cL_law 4 s #[Value.ref b] lw_good RL) (hK : KK g s) (hXs : va_X b L xs s s.heap) (hbl : b < s.heap.size) (hL : L ≤ 3072) (hi : 6 * i + 6 ≤ L) (hc0 : LC x M o q s.heap.size top) (hJ : LJ g x a M o q top f n H) (hS : va_S (fun z => s.heap.size ≤ z) s.heap H locs) (hcl : cells + 3 ≤ 600000) (hsl : slots + 46 ≤ 7302250) (hl : lv_has ls 4 [(3, .int (nI (6 * i))), (2, .ref o), (1, .ref (x 0)), (0, .ref b)])
    (kk : ∀ (f2 : Nat → Int32) (n2 : Nat) (H2 : Heap) (locs2 : List Loc) (ls2 : Array Slot), LJ g x a M o q top f2 n2 H2 → va_S (fun z => s.heap.size ≤ z) s.heap H2 locs2 → lv_has ls2 4 [(3, .int (nI (6 * i))), (2, .ref o), (1, .ref (x 0)), (0, .ref b)] → W p l e room_1 s m #[Value.ref b] below meth c H2 locs2 (cells + 3) (slots + 46) Q (F0 m 1216 ls2 [])) : W p l e room_1 s m #[Value.ref b] below meth c H locs cells slots Q (F0 m 1177 ls []) := by
  have hx := hC.1
  have hb := hC.2.1
  have hml := hC.2.2.1
  obtain ⟨hX, hR, hG, htop⟩ := hJ
  obtain ⟨⟨hGF, ⟨hV8, hV12⟩, hGT, cn, hcn, hc, hGC⟩, -⟩ := id hG
  have hn4 := hX.1
  obtain ⟨rq, hXB, hXS, hback⟩ := hX.q hc hcn
  refine lv_aload_n hx hb dL_law_1177 rfl (lvG hl rfl) ?_
  refine k_callMI0 (k_goV (rest := []) hC hK (c_X4_balancingCutOff l g x a n f cn rq hc hcn) L_L_X4_balancingCutOff ⟨⟨Nat.le_of_ble_eq_true rfl, Nat.le_of_ble_eq_true rfl⟩, ⟨rfl, rfl⟩, ⟨(by show _ ≤ 600000; omega), (by show _ ≤ 7302250; omega)⟩⟩ (hX.recv hK) (⟨hXB, hXS⟩) rfl hl.1 rfl (Nat.le_of_ble_eq_true rfl) dL_law_1178) hS (fun z h => (hc0.2.2 z (Or.inr (Or.inl h))).1) (fun r1 H1 locs1 hq1 hz1 hk1 hS1 => ?_)
  obtain ⟨e1, hX1⟩ := hq1
  have hX1 := hback H1 hk1 hX1
  have hR1 := hR.kept hk1 (fun c => (hc0.2.1 _ (Or.inr c)).1 rfl) (fun c => (hc0.2.1 _ (Or.inr c)).2 rfl)
  refine lv_aload_n hx hb dL_law_1181 rfl (lvG hl rfl) ?_
  refine k_callMI0 (k_goV (rest := [.int (r1)]) hC hK (c_X5_balancingCutOff l g o q f n (vol_ok hGF.1) (vr_ok hV8 hV12)) L_L_X5_balancingCutOff ⟨⟨Nat.le_of_ble_eq_true rfl, Nat.le_of_ble_eq_true rfl⟩, ⟨rfl, rfl⟩, ⟨(by show _ ≤ 600000; omega), (by show _ ≤ 7302250; omega)⟩⟩ (hR1.recv hK) hR1 rfl hl.1 rfl (Nat.le_of_ble_eq_true rfl) dL_law_1182) hS1 (fun z h => h.elim (fun e => e ▸ hc0.oo.1) (fun e => e ▸ hc0.qq.1)) (fun r2 H2 locs2 hq2 hz2 hk2 hS2 => ?_)
  obtain ⟨e2, hR2⟩ := hq2
  have hX2 := hX1.ref hc0 hk2
  obtain ⟨F2, eF2, hR2⟩ := hR2
  refine lv_icmp_eq (tgt := 1216) hx hb dL_law_1185 (by decide) (fun _ => ?_) (fun z => absurd (e1.trans ((bal_eq hGF hV8 hV12).trans e2.symm)) z)
  refine W.widen (k := cells + 3) (n := slots + 46) (by omega) (by omega) ?_
  exact kk F2 n H2 _ _ ⟨hX2.congr (fun j hj => (eF2 j hj).symm), hR2, hG.congr hn4 (fun j hj => (eF2 j hj).symm), (Nat.le_trans (Nat.le_trans htop hz1) hz2)⟩ hS2 hl
set_option maxHeartbeats 4000000 in
set_option maxRecDepth 100000 in
/-- historySize -/
theorem law_36 (hC : CallFix p m c cL_law 4 s #[Value.ref b] lw_good RL) (hK : KK g s) (hXs : va_X b L xs s s.heap) (hbl : b < s.heap.size) (hL : L ≤ 3072) (hi : 6 * i + 6 ≤ L) (hc0 : LC x M o q s.heap.size top) (hJ : LJ g x a M o q top f n H) (hS : va_S (fun z => s.heap.size ≤ z) s.heap H locs) (hcl : cells + 3 ≤ 600000) (hsl : slots + 46 ≤ 7302250) (hl : lv_has ls 4 [(3, .int (nI (6 * i))), (2, .ref o), (1, .ref (x 0)), (0, .ref b)])
    (kk : ∀ (f2 : Nat → Int32) (n2 : Nat) (H2 : Heap) (locs2 : List Loc) (ls2 : Array Slot), LJ g x a M o q top f2 n2 H2 → va_S (fun z => s.heap.size ≤ z) s.heap H2 locs2 → lv_has ls2 4 [(3, .int (nI (6 * i))), (2, .ref o), (1, .ref (x 0)), (0, .ref b)] → W p l e room_1 s m #[Value.ref b] below meth c H2 locs2 (cells + 3) (slots + 46) Q (F0 m 1216 ls2 [])) : W p l e room_1 s m #[Value.ref b] below meth c H locs cells slots Q (F0 m 1190 ls []) := by
  have hx := hC.1
  have hb := hC.2.1
  have hml := hC.2.2.1
  obtain ⟨hX, hR, hG, htop⟩ := hJ
  obtain ⟨⟨hGF, ⟨hV8, hV12⟩, hGT, cn, hcn, hc, hGC⟩, -⟩ := id hG
  have hn4 := hX.1
  obtain ⟨rq, hXB, hXS, hback⟩ := hX.q hc hcn
  refine lv_aload_n hx hb dL_law_1190 rfl (lvG hl rfl) ?_
  refine k_callPI (k_goV (rest := []) hC hK (c_X4_historySize l g x a n f cn rq hc hcn) L_L_X4_historySize ⟨⟨Nat.le_of_ble_eq_true rfl, Nat.le_of_ble_eq_true rfl⟩, ⟨rfl, rfl⟩, ⟨(by show _ ≤ 600000; omega), (by show _ ≤ 7302250; omega)⟩⟩ (hX.recv hK) (hXB) rfl hl.1 rfl (Nat.le_of_ble_eq_true rfl) dL_law_1191) ?_
  refine lv_aload_n hx hb dL_law_1194 rfl (lvG hl rfl) ?_
  refine k_callPI (k_goV (rest := [.int (nI n)]) hC hK (c_X5_historySize l g o q f n) L_L_X5_historySize ⟨⟨Nat.le_of_ble_eq_true rfl, Nat.le_of_ble_eq_true rfl⟩, ⟨rfl, rfl⟩, ⟨(by show _ ≤ 600000; omega), (by show _ ≤ 7302250; omega)⟩⟩ (hR.recv hK) hR rfl hl.1 rfl (Nat.le_of_ble_eq_true rfl) dL_law_1195) ?_
  refine lv_icmp_eq (tgt := 1216) hx hb dL_law_1198 (by decide) (fun _ => ?_) (fun z => absurd rfl z)
  refine W.widen (k := cells + 3) (n := slots + 46) (by omega) (by omega) ?_
  exact kk f n H _ _ ⟨hX, hR, hG, htop⟩ hS hl
set_option maxHeartbeats 4000000 in
set_option maxRecDepth 100000 in
/-- undo -/
theorem law_37 (hC : CallFix p m c cL_law 4 s #[Value.ref b] lw_good RL) (hK : KK g s) (hXs : va_X b L xs s s.heap) (hbl : b < s.heap.size) (hL : L ≤ 3072) (hi : 6 * i + 6 ≤ L) (hc0 : LC x M o q s.heap.size top) (hJ : LJ g x a M o q top f n H) (hS : va_S (fun z => s.heap.size ≤ z) s.heap H locs) (hcl : cells + 3 ≤ 600000) (hsl : slots + 46 ≤ 7302250) (hl : lv_has ls 4 [(3, .int (nI (6 * i))), (2, .ref o), (1, .ref (x 0)), (0, .ref b)])
    (kk : ∀ (f2 : Nat → Int32) (n2 : Nat) (H2 : Heap) (locs2 : List Loc) (ls2 : Array Slot), LJ g x a M o q top f2 n2 H2 → va_S (fun z => s.heap.size ≤ z) s.heap H2 locs2 → lv_has ls2 4 [(3, .int (nI (6 * i))), (2, .ref o), (1, .ref (x 0)), (0, .ref b)] → W p l e room_1 s m #[Value.ref b] below meth c H2 locs2 (cells + 3) (slots + 46) Q (F0 m 1216 ls2 [])) : W p l e room_1 s m #[Value.ref b] below meth c H locs cells slots Q (F0 m 1203 ls []) := by
  have hx := hC.1
  have hb := hC.2.1
  have hml := hC.2.2.1
  obtain ⟨hX, hR, hG, htop⟩ := hJ
  obtain ⟨⟨hGF, ⟨hV8, hV12⟩, hGT, cn, hcn, hc, hGC⟩, -⟩ := id hG
  have hn4 := hX.1
  obtain ⟨rq, hXB, hXS, hback⟩ := hX.q hc hcn
  refine lv_aload_n hx hb dL_law_1203 rfl (lvG hl rfl) ?_
  refine k_callMI0 (k_goV (rest := []) hC hK (c_X4_undo l g x a M f n) L_L_X4_undo ⟨⟨Nat.le_of_ble_eq_true rfl, Nat.le_of_ble_eq_true rfl⟩, ⟨rfl, rfl⟩, ⟨(by show _ ≤ 600000; omega), (by show _ ≤ 7302250; omega)⟩⟩ (hX.recv hK) hX rfl hl.1 rfl (Nat.le_of_ble_eq_true rfl) dL_law_1204) hS (fun z h => (hc0.2.2 z (Or.inl h)).1) (fun r1 H1 locs1 hq1 hz1 hk1 hS1 => ?_)
  obtain ⟨e1, hX1⟩ := hq1
  have hR1 := hR.kept hk1 (fun c => (hc0.2.1 _ (Or.inl c)).1 rfl) (fun c => (hc0.2.1 _ (Or.inl c)).2 rfl)
  refine lv_aload_n hx hb dL_law_1207 rfl (lvG hl rfl) ?_
  refine k_callMI0 (k_goV (rest := [.int (r1)]) hC hK (c_X5_undo l g o q f n) L_L_X5_undo ⟨⟨Nat.le_of_ble_eq_true rfl, Nat.le_of_ble_eq_true rfl⟩, ⟨rfl, rfl⟩, ⟨(by show _ ≤ 600000; omega), (by show _ ≤ 7302250; omega)⟩⟩ (hR1.recv hK) hR1 rfl hl.1 rfl (Nat.le_of_ble_eq_true rfl) dL_law_1208) hS1 (fun z h => h.elim (fun e => e ▸ hc0.oo.1) (fun e => e ▸ hc0.qq.1)) (fun r2 H2 locs2 hq2 hz2 hk2 hS2 => ?_)
  obtain ⟨e2, hR2⟩ := hq2
  have hX2 := hX1.ref hc0 hk2
  refine lv_icmp_eq (tgt := 1216) hx hb dL_law_1211 (by decide) (fun _ => ?_) (fun z => absurd (e1.trans e2.symm) z)
  refine W.widen (k := cells + 3) (n := slots + 46) (by omega) (by omega) ?_
  exact kk _ _ H2 _ _ ⟨hX2, hR2, hG.und hn4, (Nat.le_trans (Nat.le_trans htop hz1) hz2)⟩ hS2 hl
end LAW
