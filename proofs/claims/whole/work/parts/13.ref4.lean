theorem L_X5_X5_parts : LnkV RX5 91 yX5_parts cX5_parts 5 (some .int) 2 := ⟨w_800, w_802, w_37, w_60, w_803, ⟨by decide +kernel, by decide +kernel⟩, by decide +kernel⟩
set_option maxHeartbeats 4000000 in
set_option maxRecDepth 100000 in
theorem c_X5_forwardArea (l : Launch) (g : kG) (o : Nat) (q : Nat) (f : Nat → Int32) (n : Nat) (v : Int32) (cn : Nat) (hc : f 61 = nI cn) (hcn : cn ≤ 10) (hR : ∀ j, j < cn → ∀ k, k ≤ 20 → rg (s_df (s_pt f j) k)) : PI l yX5_forwardArea cX5_forwardArea 2 (some .int) (rr 2 48) [.ref o, .int (v)] ((RP g o q f n)) g (if s_okC f v then s_pa (s_pt f (v).toNatClampNeg) True 20 else cINV) := by
  refine kOf (by decide) (Nat.le_of_ble_eq_true rfl) (fun p e s m below meth c ls hC hr hlk hin hK hP hl => ?_)
  have hx := hC.1
  have hb := hC.2.1
  have hml := hC.2.2.1
  have hown := hC.2.2.2.1
  have hts := hC.2.2.2.2
  have hl : lv_has ls 2 [(0, .ref o), (1, .int (v))] := hl
  refine lv_aload_n hx hb dX5_forwardArea_0 rfl (lvG hl rfl) ?_
  refine lv_iload_n hx hb dX5_forwardArea_1 rfl (lvG hl rfl) ?_
  refine k_callPI (k_goV (rest := []) hC hK (c_X5_isCard l g o q f n v) L_X5_X5_isCard (⟨⟨Nat.le_of_ble_eq_true rfl, Nat.le_of_ble_eq_true rfl⟩, ⟨rfl, rfl⟩, ⟨Nat.le_of_ble_eq_true rfl, Nat.le_of_ble_eq_true rfl⟩⟩) (hP.recv hK) (hP) rfl hl.1 rfl (Nat.le_of_ble_eq_true rfl) dX5_forwardArea_2) ?_
  refine b_ifeq (tgt := 20) hC dX5_forwardArea_5 (by decide) (fun zc5 => ?_) (fun zc5 => ?_)
  · refine lv_ldc (v := (-2000000001 : Int32)) hx hb hown (hts _ w_669) dX5_forwardArea_20 ?_
    exact k_iret hC hr hlk dX5_forwardArea_22 (by first | (rw [if_neg zc5]) | (rw [if_pos zc5, e_j]))
  · obtain ⟨j, h_j, ev_j⟩ := in_card (v := v) hcn hc (zc5)
    have e_j : (v).toNatClampNeg = j := by rw [ev_j]; exact nI_clamp (by omega)
    have hl : lv_has ls 2 [(0, .ref o), (1, .int (nI j))] := lv_eq hl (by rw [ev_j])
    refine lv_aload_n hx hb dX5_forwardArea_8 rfl (lvG hl rfl) ?_
    refine lv_iload_n hx hb dX5_forwardArea_9 rfl (lvG hl rfl) ?_
    refine k_callPI (k_goS (rest := [.ref o]) hC hK (c_X5_at l g j) L_X5_X5_at (⟨⟨Nat.le_of_ble_eq_true rfl, Nat.le_of_ble_eq_true rfl⟩, ⟨rfl, rfl⟩, ⟨Nat.le_of_ble_eq_true rfl, Nat.le_of_ble_eq_true rfl⟩⟩) (trivial) rfl hl.1 rfl (Nat.le_of_ble_eq_true rfl) dX5_forwardArea_10) ?_
    refine lv_iconst (v := nI 1) hx hb dX5_forwardArea_13 (by decide) ?_
    refine k_callPI (k_goV (rest := []) hC hK (c_X5_parts l g o q f n (62 + 44 * j + 2) True (inferInstance) (by first | assumption | omega) (hR j h_j)) L_X5_X5_parts (⟨⟨Nat.le_of_ble_eq_true rfl, Nat.le_of_ble_eq_true rfl⟩, ⟨rfl, rfl⟩, ⟨Nat.le_of_ble_eq_true rfl, Nat.le_of_ble_eq_true rfl⟩⟩) (hP.recv hK) (hP) rfl hl.1 rfl (Nat.le_of_ble_eq_true rfl) dX5_forwardArea_14) ?_
    refine lv_goto (tgt := 22) hx hb dX5_forwardArea_17 (by decide) ?_
    exact k_iret hC hr hlk dX5_forwardArea_22 (by first | (rw [if_neg zc5]) | (rw [if_pos zc5, e_j]))
set_option maxHeartbeats 4000000 in
set_option maxRecDepth 100000 in
theorem c_X5_loopArea (l : Launch) (g : kG) (o : Nat) (q : Nat) (f : Nat → Int32) (n : Nat) (v : Int32) (cn : Nat) (hc : f 61 = nI cn) (hcn : cn ≤ 10) (hR : ∀ j, j < cn → ∀ k, k ≤ 20 → rg (s_df (s_pt f j) k)) : PI l yX5_loopArea cX5_loopArea 2 (some .int) (rr 2 48) [.ref o, .int (v)] ((RP g o q f n)) g (if s_okC f v then s_pa (s_pt f (v).toNatClampNeg) False 20 else cINV) := by
  refine kOf (by decide) (Nat.le_of_ble_eq_true rfl) (fun p e s m below meth c ls hC hr hlk hin hK hP hl => ?_)
  have hx := hC.1
  have hb := hC.2.1
  have hml := hC.2.2.1
  have hown := hC.2.2.2.1
  have hts := hC.2.2.2.2
  have hl : lv_has ls 2 [(0, .ref o), (1, .int (v))] := hl
  refine lv_aload_n hx hb dX5_loopArea_0 rfl (lvG hl rfl) ?_
  refine lv_iload_n hx hb dX5_loopArea_1 rfl (lvG hl rfl) ?_
  refine k_callPI (k_goV (rest := []) hC hK (c_X5_isCard l g o q f n v) L_X5_X5_isCard (⟨⟨Nat.le_of_ble_eq_true rfl, Nat.le_of_ble_eq_true rfl⟩, ⟨rfl, rfl⟩, ⟨Nat.le_of_ble_eq_true rfl, Nat.le_of_ble_eq_true rfl⟩⟩) (hP.recv hK) (hP) rfl hl.1 rfl (Nat.le_of_ble_eq_true rfl) dX5_loopArea_2) ?_
  refine b_ifeq (tgt := 20) hC dX5_loopArea_5 (by decide) (fun zc5 => ?_) (fun zc5 => ?_)
  · refine lv_ldc (v := (-2000000001 : Int32)) hx hb hown (hts _ w_669) dX5_loopArea_20 ?_
    exact k_iret hC hr hlk dX5_loopArea_22 (by first | (rw [if_neg zc5]) | (rw [if_pos zc5, e_j]))
  · obtain ⟨j, h_j, ev_j⟩ := in_card (v := v) hcn hc (zc5)
    have e_j : (v).toNatClampNeg = j := by rw [ev_j]; exact nI_clamp (by omega)
    have hl : lv_has ls 2 [(0, .ref o), (1, .int (nI j))] := lv_eq hl (by rw [ev_j])
    refine lv_aload_n hx hb dX5_loopArea_8 rfl (lvG hl rfl) ?_
    refine lv_iload_n hx hb dX5_loopArea_9 rfl (lvG hl rfl) ?_
    refine k_callPI (k_goS (rest := [.ref o]) hC hK (c_X5_at l g j) L_X5_X5_at (⟨⟨Nat.le_of_ble_eq_true rfl, Nat.le_of_ble_eq_true rfl⟩, ⟨rfl, rfl⟩, ⟨Nat.le_of_ble_eq_true rfl, Nat.le_of_ble_eq_true rfl⟩⟩) (trivial) rfl hl.1 rfl (Nat.le_of_ble_eq_true rfl) dX5_loopArea_10) ?_
    refine lv_iconst (v := nI 0) hx hb dX5_loopArea_13 (by decide) ?_
    refine k_callPI (k_goV (rest := []) hC hK (c_X5_parts l g o q f n (62 + 44 * j + 2) False (inferInstance) (by first | assumption | omega) (hR j h_j)) L_X5_X5_parts (⟨⟨Nat.le_of_ble_eq_true rfl, Nat.le_of_ble_eq_true rfl⟩, ⟨rfl, rfl⟩, ⟨Nat.le_of_ble_eq_true rfl, Nat.le_of_ble_eq_true rfl⟩⟩) (hP.recv hK) (hP) rfl hl.1 rfl (Nat.le_of_ble_eq_true rfl) dX5_loopArea_14) ?_
    refine lv_goto (tgt := 22) hx hb dX5_loopArea_17 (by decide) ?_
    exact k_iret hC hr hlk dX5_loopArea_22 (by first | (rw [if_neg zc5]) | (rw [if_pos zc5, e_j]))
def s_ls (p : Nat → Int32) : Nat → Int32
  | 0 => nI 0
  | k + 1 => s_ls p k ||| (if s_df p k < nI 0 then nI 1 <<< (nI k &&& 31) else nI 0)
set_option maxHeartbeats 4000000 in
set_option maxRecDepth 100000 in
theorem c_X5_loopStations (l : Launch) (g : kG) (o : Nat) (q : Nat) (f : Nat → Int32) (n : Nat) (v : Int32) (cn : Nat) (hc : f 61 = nI cn) (hcn : cn ≤ 10) : PI l yX5_loopStations cX5_loopStations 4 (some .int) (rr 2 43) [.ref o, .int (v)] ((RP g o q f n)) g (if s_okC f v then s_ls (s_pt f (v).toNatClampNeg) 21 else cINV) := by
  refine kOf (by decide) (Nat.le_of_ble_eq_true rfl) (fun p e s m below meth c ls hC hr hlk hin hK hP hl => ?_)
  have hx := hC.1
  have hb := hC.2.1
  have hml := hC.2.2.1
  have hown := hC.2.2.2.1
  have hts := hC.2.2.2.2
  have hl : lv_has ls 4 [(0, .ref o), (1, .int (v))] := hl
  refine lv_aload_n hx hb dX5_loopStations_0 rfl (lvG hl rfl) ?_
  refine lv_iload_n hx hb dX5_loopStations_1 rfl (lvG hl rfl) ?_
  refine k_callPI (k_goV (rest := []) hC hK (c_X5_isCard l g o q f n v) L_X5_X5_isCard (⟨⟨Nat.le_of_ble_eq_true rfl, Nat.le_of_ble_eq_true rfl⟩, ⟨rfl, rfl⟩, ⟨Nat.le_of_ble_eq_true rfl, Nat.le_of_ble_eq_true rfl⟩⟩) (hP.recv hK) (hP) rfl hl.1 rfl (Nat.le_of_ble_eq_true rfl) dX5_loopStations_2) ?_
  refine b_ifne (tgt := 11) hC dX5_loopStations_5 (by decide) (fun zc5 => ?_) (fun zc5 => ?_)
  · obtain ⟨j, h_j, ev_j⟩ := in_card (v := v) hcn hc (zc5)
    have e_j : (v).toNatClampNeg = j := by rw [ev_j]; exact nI_clamp (by omega)
    have hl : lv_has ls 4 [(0, .ref o), (1, .int (nI j))] := lv_eq hl (by rw [ev_j])
    refine lv_iconst (v := nI 0) hx hb dX5_loopStations_11 (by decide) ?_
    refine lv_istore_n (lv' := [(2, .int (nI 0)), (0, .ref o), (1, .int (nI j))]) hx hb dX5_loopStations_12 rfl hl (by decide) rfl (fun ls hl => ?_)
    refine lv_iconst (v := nI 0) hx hb dX5_loopStations_13 (by decide) ?_
    refine lv_istore_n (lv' := [(3, .int (nI 0)), (2, .int (nI 0)), (0, .ref o), (1, .int (nI j))]) hx hb dX5_loopStations_14 rfl hl (by decide) rfl (fun ls hl => ?_)
    have key_1 : ∀ (k_2 : Nat) (i : Nat) (sm : Int32)  (hi : i ≤ 21) (hs : sm = s_ls (s_pt f j) i) (hk_k_2 : 21 - i < k_2) (ls : Array Slot) (hl : lv_has ls 4 [(3, .int (nI i)), (2, .int (sm)), (0, .ref o), (1, .int (nI j))]), W p l e (rr 2 43) s m [.ref o, .int (v)].toArray below meth c s.heap [] 0 0 (MQ below (vp_Si (fun r => r = if s_okC f v then s_ls (s_pt f (v).toNatClampNeg) 21 else cINV)) [.ref o, .int (v)].toArray s 0 0 (fun _ => False)) (F0 m 15 ls ([])) := by
      intro k_2
      induction k_2 with
      | zero => intro i sm hi hs hk_k_2 ls hl; exact absurd hk_k_2 (Nat.not_lt_zero _)
      | succ k_2 ih_3 =>
        intro i sm hi hs hk_k_2 ls hl
        refine lv_iload_n hx hb dX5_loopStations_15 rfl (lvG hl rfl) ?_
        refine lv_bipush (v := nI 21) hx hb dX5_loopStations_16 (by decide) ?_
        refine n_icmp_ge (tgt := 49) hC dX5_loopStations_18 (by omega) (by omega) (by decide) (fun zc18 => ?_) (fun zc18 => ?_)
        · refine lv_iload_n hx hb dX5_loopStations_49 rfl (lvG hl rfl) ?_
          exact k_iret hC hr hlk dX5_loopStations_50 (by rw [if_pos zc5, e_j, hs, show i = 21 by omega])
        · refine lv_iload_n hx hb dX5_loopStations_21 rfl (lvG hl rfl) ?_
          refine lv_aload_n hx hb dX5_loopStations_22 rfl (lvG hl rfl) ?_
          refine lv_iload_n hx hb dX5_loopStations_23 rfl (lvG hl rfl) ?_
          refine k_callPI (k_goS (rest := [.ref o, .int (sm)]) hC hK (c_X5_at l g j) L_X5_X5_at (⟨⟨Nat.le_of_ble_eq_true rfl, Nat.le_of_ble_eq_true rfl⟩, ⟨rfl, rfl⟩, ⟨Nat.le_of_ble_eq_true rfl, Nat.le_of_ble_eq_true rfl⟩⟩) (trivial) rfl hl.1 rfl (Nat.le_of_ble_eq_true rfl) dX5_loopStations_24) ?_
          refine lv_iload_n hx hb dX5_loopStations_27 rfl (lvG hl rfl) ?_
          refine k_callPI (k_goV (rest := [.int (sm)]) hC hK (c_X5_difference l g o q f n (62 + 44 * j + 2) i (by first | assumption | omega)) L_X5_X5_difference (⟨⟨Nat.le_of_ble_eq_true rfl, Nat.le_of_ble_eq_true rfl⟩, ⟨rfl, rfl⟩, ⟨Nat.le_of_ble_eq_true rfl, Nat.le_of_ble_eq_true rfl⟩⟩) (hP.recv hK) (hP) rfl hl.1 rfl (Nat.le_of_ble_eq_true rfl) dX5_loopStations_28) ?_
          refine z_if_ge (tgt := 40) hC dX5_loopStations_31 (by decide) (fun zc31 => ?_) (fun zc31 => ?_)
          · refine lv_iconst (v := nI 0) hx hb dX5_loopStations_40 (by decide) ?_
            refine lv_ior hx hb dX5_loopStations_41 ?_
            refine lv_istore_n (lv' := [(2, .int (sm ||| (nI 0))), (3, .int (nI i)), (0, .ref o), (1, .int (nI j))]) hx hb dX5_loopStations_42 rfl hl (by decide) rfl (fun ls hl => ?_)
            refine n_iinc (lv' := [(3, .int (nI (i + 1))), (2, .int (sm ||| (nI 0))), (0, .ref o), (1, .int (nI j))]) hC dX5_loopStations_43 hl rfl (by decide) rfl (fun ls hl => ?_)
            refine lv_goto (tgt := 15) hx hb dX5_loopStations_46 (by decide) ?_
            exact ih_3 (i + 1) (sm ||| (nI 0))  (by first | omega | assumption | rfl) (by rw [hs]; conv => { rhs; unfold s_ls }; first | (rw [if_neg (Int32.not_lt.mpr zc31)]) | (rw [if_pos (Int32.not_le.mp zc31)])) (by omega) ls (lv_sub hl [0, 1, 2, 3] rfl)
          · refine lv_iconst (v := nI 1) hx hb dX5_loopStations_34 (by decide) ?_
            refine lv_iload_n hx hb dX5_loopStations_35 rfl (lvG hl rfl) ?_
            refine lv_ishl hx hb dX5_loopStations_36 ?_
            refine lv_goto (tgt := 41) hx hb dX5_loopStations_37 (by decide) ?_
            refine lv_ior hx hb dX5_loopStations_41 ?_
            refine lv_istore_n (lv' := [(2, .int (sm ||| ((nI 1) <<< ((nI i) &&& 31)))), (3, .int (nI i)), (0, .ref o), (1, .int (nI j))]) hx hb dX5_loopStations_42 rfl hl (by decide) rfl (fun ls hl => ?_)
            refine n_iinc (lv' := [(3, .int (nI (i + 1))), (2, .int (sm ||| ((nI 1) <<< ((nI i) &&& 31)))), (0, .ref o), (1, .int (nI j))]) hC dX5_loopStations_43 hl rfl (by decide) rfl (fun ls hl => ?_)
            refine lv_goto (tgt := 15) hx hb dX5_loopStations_46 (by decide) ?_
            exact ih_3 (i + 1) (sm ||| ((nI 1) <<< ((nI i) &&& 31)))  (by first | omega | assumption | rfl) (by rw [hs]; conv => { rhs; unfold s_ls }; first | (rw [if_neg (Int32.not_lt.mpr zc31)]) | (rw [if_pos (Int32.not_le.mp zc31)])) (by omega) ls (lv_sub hl [0, 1, 2, 3] rfl)
    exact key_1 ((21 - 0) + 1) 0 (nI 0)  (by first | rfl | omega | assumption) (by first | rfl | omega | assumption) (Nat.lt_succ_self _) ls (lv_sub hl [0, 1, 2, 3] rfl)
  · refine lv_ldc (v := (-2000000001 : Int32)) hx hb hown (hts _ w_669) dX5_loopStations_8 ?_
    exact k_iret hC hr hlk dX5_loopStations_10 (by rw [if_neg zc5])
set_option maxHeartbeats 4000000 in
set_option maxRecDepth 100000 in
theorem c_X5_meanPressure (l : Launch) (g : kG) (o : Nat) (q : Nat) (f : Nat → Int32) (n : Nat) (v : Int32) (cn : Nat) (hc : f 61 = nI cn) (hcn : cn ≤ 10) : PI l yX5_meanPressure cX5_meanPressure 2 (some .int) (rr 2 45) [.ref o, .int (v)] ((RP g o q f n)) g (if s_okC f v then (s_quo ((s_ar (s_pt f (v).toNatClampNeg) 20).toInt64 * (1000 : Int64)) (40 : Int64)).toInt32 else cINV) := by
  refine kOf (by decide) (Nat.le_of_ble_eq_true rfl) (fun p e s m below meth c ls hC hr hlk hin hK hP hl => ?_)
  have hx := hC.1
  have hb := hC.2.1
  have hml := hC.2.2.1
  have hown := hC.2.2.2.1
  have hts := hC.2.2.2.2
  have hl : lv_has ls 2 [(0, .ref o), (1, .int (v))] := hl
  refine lv_aload_n hx hb dX5_meanPressure_0 rfl (lvG hl rfl) ?_
  refine lv_iload_n hx hb dX5_meanPressure_1 rfl (lvG hl rfl) ?_
  refine k_callPI (k_goV (rest := []) hC hK (c_X5_isCard l g o q f n v) L_X5_X5_isCard (⟨⟨Nat.le_of_ble_eq_true rfl, Nat.le_of_ble_eq_true rfl⟩, ⟨rfl, rfl⟩, ⟨Nat.le_of_ble_eq_true rfl, Nat.le_of_ble_eq_true rfl⟩⟩) (hP.recv hK) (hP) rfl hl.1 rfl (Nat.le_of_ble_eq_true rfl) dX5_meanPressure_2) ?_
  refine b_ifeq (tgt := 31) hC dX5_meanPressure_5 (by decide) (fun zc5 => ?_) (fun zc5 => ?_)
  · refine lv_ldc (v := (-2000000001 : Int32)) hx hb hown (hts _ w_669) dX5_meanPressure_31 ?_
    exact k_iret hC hr hlk dX5_meanPressure_33 (by first | (rw [if_neg zc5]) | (rw [if_pos zc5, e_j]))
  · obtain ⟨j, h_j, ev_j⟩ := in_card (v := v) hcn hc (zc5)
    have e_j : (v).toNatClampNeg = j := by rw [ev_j]; exact nI_clamp (by omega)
    have hl : lv_has ls 2 [(0, .ref o), (1, .int (nI j))] := lv_eq hl (by rw [ev_j])
    refine lv_aload_n hx hb dX5_meanPressure_8 rfl (lvG hl rfl) ?_
    refine lv_iload_n hx hb dX5_meanPressure_9 rfl (lvG hl rfl) ?_
    refine k_callPI (k_goS (rest := [.ref o]) hC hK (c_X5_at l g j) L_X5_X5_at (⟨⟨Nat.le_of_ble_eq_true rfl, Nat.le_of_ble_eq_true rfl⟩, ⟨rfl, rfl⟩, ⟨Nat.le_of_ble_eq_true rfl, Nat.le_of_ble_eq_true rfl⟩⟩) (trivial) rfl hl.1 rfl (Nat.le_of_ble_eq_true rfl) dX5_meanPressure_10) ?_
    refine k_callPI (k_goV (rest := []) hC hK (c_X5_areaAt l g o q f n (62 + 44 * j + 2) (by first | assumption | omega)) L_X5_X5_areaAt (⟨⟨Nat.le_of_ble_eq_true rfl, Nat.le_of_ble_eq_true rfl⟩, ⟨rfl, rfl⟩, ⟨Nat.le_of_ble_eq_true rfl, Nat.le_of_ble_eq_true rfl⟩⟩) (hP.recv hK) (hP) rfl hl.1 rfl (Nat.le_of_ble_eq_true rfl) dX5_meanPressure_13) ?_
    refine lv_i2l (v := (s_ar (fun k => f ((62 + 44 * j + 2) + k)) 20).toInt64) hx hb dX5_meanPressure_16 rfl ?_
    refine lv_ldc2 (v := (1000 : Int64)) hx hb hown (hts _ w_755) dX5_meanPressure_17 ?_
    refine lv_lmul hx hb dX5_meanPressure_20 ?_
    refine lv_ldc2 (v := (40 : Int64)) hx hb hown (hts _ w_819) dX5_meanPressure_21 ?_
    refine k_callPL (k_goS (rest := []) hC hK (c_X5_quotient l g (((s_ar (fun k => f ((62 + 44 * j + 2) + k)) 20).toInt64) * ((1000 : Int64))) ((40 : Int64)) (by decide)) L_X5_X5_quotient (⟨⟨Nat.le_of_ble_eq_true rfl, Nat.le_of_ble_eq_true rfl⟩, ⟨rfl, rfl⟩, ⟨Nat.le_of_ble_eq_true rfl, Nat.le_of_ble_eq_true rfl⟩⟩) (trivial) rfl hl.1 rfl (Nat.le_of_ble_eq_true rfl) dX5_meanPressure_24) ?_
    refine lv_l2i (v := (s_quo (((s_ar (fun k => f ((62 + 44 * j + 2) + k)) 20).toInt64) * ((1000 : Int64))) ((40 : Int64))).toInt32) hx hb dX5_meanPressure_27 rfl ?_
    refine lv_goto (tgt := 33) hx hb dX5_meanPressure_28 (by decide) ?_
    exact k_iret hC hr hlk dX5_meanPressure_33 (by first | (rw [if_neg zc5]) | (rw [if_pos zc5, e_j]))
def s_pw (f : Nat → Int32) (a : Int32) (en : Nat) (sp : Int32) : Int64 := s_quo (a.toInt64 * (f (1 + en)).toInt64 * (f 3).toInt64 * sp.toInt64) (2400000 : Int64)
def s_en (f : Nat → Int32) (j : Nat) : Nat := (f (62 + 44 * j)).toNatClampNeg
def s_pc (f : Nat → Int32) (j : Nat) : Int64 := s_pw f (s_ar (s_pt f j) 20) (s_en f j) (f (62 + 44 * j + 1))
set_option maxHeartbeats 4000000 in
set_option maxRecDepth 100000 in
theorem c_X5_powerOf (l : Launch) (g : kG) (o : Nat) (q : Nat) (f : Nat → Int32) (n : Nat) (a : Int32) (en : Nat) (sp : Int32) (h : en ≤ 1) : PL l yX5_powerOf cX5_powerOf 4 (some .long) (rr 1 23) [.ref o, .int (a), .int (nI en), .int (sp)] ((RP g o q f n)) g (s_pw f a en sp) := by
  refine kOf (by decide) (Nat.le_of_ble_eq_true rfl) (fun p e s m below meth c ls hC hr hlk hin hK hP hl => ?_)
  have hx := hC.1
  have hb := hC.2.1
  have hml := hC.2.2.1
  have hown := hC.2.2.2.1
  have hts := hC.2.2.2.2
  have hl : lv_has ls 4 [(0, .ref o), (1, .int (a)), (2, .int (nI en)), (3, .int (sp))] := hl
  refine lv_iload_n hx hb dX5_powerOf_0 rfl (lvG hl rfl) ?_
  refine lv_i2l (v := (a).toInt64) hx hb dX5_powerOf_1 rfl ?_
  refine lv_aload_n hx hb dX5_powerOf_2 rfl (lvG hl rfl) ?_
  refine r_row hC hK hP dX5_powerOf_3 ?_
  refine lv_iconst (v := nI 1) hx hb dX5_powerOf_6 (by decide) ?_
  refine lv_iload_n hx hb dX5_powerOf_7 rfl (lvG hl rfl) ?_
  refine n_iadd hC dX5_powerOf_8 ?_
  refine r_ald (k := 1 + en) hC hK hP (by omega) dX5_powerOf_9 ?_
  refine lv_i2l (v := (f (1 + en)).toInt64) hx hb dX5_powerOf_10 rfl ?_
  refine lv_lmul hx hb dX5_powerOf_11 ?_
  refine lv_aload_n hx hb dX5_powerOf_12 rfl (lvG hl rfl) ?_
  refine r_row hC hK hP dX5_powerOf_13 ?_
  refine lv_iconst (v := nI 3) hx hb dX5_powerOf_16 (by decide) ?_
  refine r_ald (k := 3) hC hK hP (by omega) dX5_powerOf_17 ?_
  refine lv_i2l (v := (f 3).toInt64) hx hb dX5_powerOf_18 rfl ?_
  refine lv_lmul hx hb dX5_powerOf_19 ?_
  refine lv_iload_n hx hb dX5_powerOf_20 rfl (lvG hl rfl) ?_
  refine lv_i2l (v := (sp).toInt64) hx hb dX5_powerOf_21 rfl ?_
  refine lv_lmul hx hb dX5_powerOf_22 ?_
  refine lv_ldc2 (v := (2400000 : Int64)) hx hb hown (hts _ w_832) dX5_powerOf_23 ?_
  refine k_callPL (k_goS (rest := []) hC hK (c_X5_quotient l g (((((a).toInt64) * ((f (1 + en)).toInt64)) * ((f 3).toInt64)) * ((sp).toInt64)) ((2400000 : Int64)) (by decide)) L_X5_X5_quotient (⟨⟨Nat.le_of_ble_eq_true rfl, Nat.le_of_ble_eq_true rfl⟩, ⟨rfl, rfl⟩, ⟨Nat.le_of_ble_eq_true rfl, Nat.le_of_ble_eq_true rfl⟩⟩) (trivial) rfl hl.1 rfl (Nat.le_of_ble_eq_true rfl) dX5_powerOf_26) ?_
  exact k_lret hC hr hlk dX5_powerOf_29 (by first | rfl | grind [] | grind [nI])
theorem L_X5_X5_powerOf : LnkV RX5 97 yX5_powerOf cX5_powerOf 4 (some .long) 3 := ⟨w_828, w_830, w_39, w_60, w_831, ⟨by decide +kernel, by decide +kernel⟩, by decide +kernel⟩
set_option maxHeartbeats 4000000 in
set_option maxRecDepth 100000 in
theorem c_X5_powerAt (l : Launch) (g : kG) (o : Nat) (q : Nat) (f : Nat → Int32) (n : Nat) (j : Nat) (cn : Nat) (hc : f 61 = nI cn) (hcn : cn ≤ 10) (hj : j < cn) (hE : ∀ j, j < cn → f (62 + 44 * j) = nI (s_en f j) ∧ s_en f j ≤ 1) : PL l yX5_powerAt cX5_powerAt 2 (some .long) (rr 2 46) [.ref o, .int (nI j)] ((RP g o q f n)) g (s_pc f j) := by
  refine kOf (by decide) (Nat.le_of_ble_eq_true rfl) (fun p e s m below meth c ls hC hr hlk hin hK hP hl => ?_)
  have hx := hC.1
  have hb := hC.2.1
  have hml := hC.2.2.1
  have hown := hC.2.2.2.1
  have hts := hC.2.2.2.2
  have hl : lv_has ls 2 [(0, .ref o), (1, .int (nI j))] := hl
  refine lv_aload_n hx hb dX5_powerAt_0 rfl (lvG hl rfl) ?_
  refine lv_aload_n hx hb dX5_powerAt_1 rfl (lvG hl rfl) ?_
  refine lv_iload_n hx hb dX5_powerAt_2 rfl (lvG hl rfl) ?_
  refine k_callPI (k_goS (rest := [.ref o, .ref o]) hC hK (c_X5_at l g j) L_X5_X5_at (⟨⟨Nat.le_of_ble_eq_true rfl, Nat.le_of_ble_eq_true rfl⟩, ⟨rfl, rfl⟩, ⟨Nat.le_of_ble_eq_true rfl, Nat.le_of_ble_eq_true rfl⟩⟩) (trivial) rfl hl.1 rfl (Nat.le_of_ble_eq_true rfl) dX5_powerAt_3) ?_
  refine k_callPI (k_goV (rest := [.ref o]) hC hK (c_X5_areaAt l g o q f n (62 + 44 * j + 2) (by first | assumption | omega)) L_X5_X5_areaAt (⟨⟨Nat.le_of_ble_eq_true rfl, Nat.le_of_ble_eq_true rfl⟩, ⟨rfl, rfl⟩, ⟨Nat.le_of_ble_eq_true rfl, Nat.le_of_ble_eq_true rfl⟩⟩) (hP.recv hK) (hP) rfl hl.1 rfl (Nat.le_of_ble_eq_true rfl) dX5_powerAt_6) ?_
  refine lv_aload_n hx hb dX5_powerAt_9 rfl (lvG hl rfl) ?_
  refine r_row hC hK hP dX5_powerAt_10 ?_
  refine lv_iload_n hx hb dX5_powerAt_13 rfl (lvG hl rfl) ?_
  refine k_callPI (k_goS (rest := [.ref q, .int (s_ar (fun k => f ((62 + 44 * j + 2) + k)) 20), .ref o]) hC hK (c_X5_endAt l g j) L_X5_X5_endAt (⟨⟨Nat.le_of_ble_eq_true rfl, Nat.le_of_ble_eq_true rfl⟩, ⟨rfl, rfl⟩, ⟨Nat.le_of_ble_eq_true rfl, Nat.le_of_ble_eq_true rfl⟩⟩) (trivial) rfl hl.1 rfl (Nat.le_of_ble_eq_true rfl) dX5_powerAt_14) ?_
  refine r_ald (k := 62 + 44 * j) hC hK hP (by omega) dX5_powerAt_17 ?_
  rw [(hE j hj).1]
  refine lv_aload_n hx hb dX5_powerAt_18 rfl (lvG hl rfl) ?_
  refine r_row hC hK hP dX5_powerAt_19 ?_
  refine lv_iload_n hx hb dX5_powerAt_22 rfl (lvG hl rfl) ?_
  refine k_callPI (k_goS (rest := [.ref q, .int (nI (s_en f (j))), .int (s_ar (fun k => f ((62 + 44 * j + 2) + k)) 20), .ref o]) hC hK (c_X5_endAt l g j) L_X5_X5_endAt (⟨⟨Nat.le_of_ble_eq_true rfl, Nat.le_of_ble_eq_true rfl⟩, ⟨rfl, rfl⟩, ⟨Nat.le_of_ble_eq_true rfl, Nat.le_of_ble_eq_true rfl⟩⟩) (trivial) rfl hl.1 rfl (Nat.le_of_ble_eq_true rfl) dX5_powerAt_23) ?_
  refine lv_iconst (v := nI 1) hx hb dX5_powerAt_26 (by decide) ?_
  refine n_iadd hC dX5_powerAt_27 ?_
  refine r_ald (k := 62 + 44 * j + 1) hC hK hP (by omega) dX5_powerAt_28 ?_
  refine k_callPL (k_goV (rest := []) hC hK (c_X5_powerOf l g o q f n (s_ar (fun k => f ((62 + 44 * j + 2) + k)) 20) (s_en f (j)) (f (62 + 44 * j + 1)) ((hE j hj).2)) L_X5_X5_powerOf (⟨⟨Nat.le_of_ble_eq_true rfl, Nat.le_of_ble_eq_true rfl⟩, ⟨rfl, rfl⟩, ⟨Nat.le_of_ble_eq_true rfl, Nat.le_of_ble_eq_true rfl⟩⟩) (hP.recv hK) (hP) rfl hl.1 rfl (Nat.le_of_ble_eq_true rfl) dX5_powerAt_29) ?_
  exact k_lret hC hr hlk dX5_powerAt_32 (by first | rfl | grind [] | grind [nI])
theorem L_X5_X5_powerAt : LnkV RX5 101 yX5_powerAt cX5_powerAt 2 (some .long) 1 := ⟨w_824, w_826, w_38, w_60, w_827, ⟨by decide +kernel, by decide +kernel⟩, by decide +kernel⟩
set_option maxHeartbeats 4000000 in
set_option maxRecDepth 100000 in
theorem c_X5_power (l : Launch) (g : kG) (o : Nat) (q : Nat) (f : Nat → Int32) (n : Nat) (v : Int32) (cn : Nat) (hc : f 61 = nI cn) (hcn : cn ≤ 10) (hE : ∀ j, j < cn → f (62 + 44 * j) = nI (s_en f j) ∧ s_en f j ≤ 1) : PL l yX5_power cX5_power 2 (some .long) (rr 3 67) [.ref o, .int (v)] ((RP g o q f n)) g (if s_okC f v then s_pc f (v).toNatClampNeg else (-2000000001 : Int64)) := by
  refine kOf (by decide) (Nat.le_of_ble_eq_true rfl) (fun p e s m below meth c ls hC hr hlk hin hK hP hl => ?_)
  have hx := hC.1
  have hb := hC.2.1
  have hml := hC.2.2.1
  have hown := hC.2.2.2.1
  have hts := hC.2.2.2.2
  have hl : lv_has ls 2 [(0, .ref o), (1, .int (v))] := hl
  refine lv_aload_n hx hb dX5_power_0 rfl (lvG hl rfl) ?_
  refine lv_iload_n hx hb dX5_power_1 rfl (lvG hl rfl) ?_
  refine k_callPI (k_goV (rest := []) hC hK (c_X5_isCard l g o q f n v) L_X5_X5_isCard (⟨⟨Nat.le_of_ble_eq_true rfl, Nat.le_of_ble_eq_true rfl⟩, ⟨rfl, rfl⟩, ⟨Nat.le_of_ble_eq_true rfl, Nat.le_of_ble_eq_true rfl⟩⟩) (hP.recv hK) (hP) rfl hl.1 rfl (Nat.le_of_ble_eq_true rfl) dX5_power_2) ?_
  refine b_ifeq (tgt := 16) hC dX5_power_5 (by decide) (fun zc5 => ?_) (fun zc5 => ?_)
  · refine lv_ldc2 (v := (-2000000001 : Int64)) hx hb hown (hts _ w_833) dX5_power_16 ?_
    exact k_lret hC hr hlk dX5_power_19 (by first | (rw [if_neg zc5]) | (rw [if_pos zc5, e_j]))
  · obtain ⟨j, h_j, ev_j⟩ := in_card (v := v) hcn hc (zc5)
    have e_j : (v).toNatClampNeg = j := by rw [ev_j]; exact nI_clamp (by omega)
    have hl : lv_has ls 2 [(0, .ref o), (1, .int (nI j))] := lv_eq hl (by rw [ev_j])
    refine lv_aload_n hx hb dX5_power_8 rfl (lvG hl rfl) ?_
    refine lv_iload_n hx hb dX5_power_9 rfl (lvG hl rfl) ?_
    refine k_callPL (k_goV (rest := []) hC hK (c_X5_powerAt l g o q f n j cn hc hcn (by first | assumption | omega) hE) L_X5_X5_powerAt (⟨⟨Nat.le_of_ble_eq_true rfl, Nat.le_of_ble_eq_true rfl⟩, ⟨rfl, rfl⟩, ⟨Nat.le_of_ble_eq_true rfl, Nat.le_of_ble_eq_true rfl⟩⟩) (hP.recv hK) (hP) rfl hl.1 rfl (Nat.le_of_ble_eq_true rfl) dX5_power_10) ?_
    refine lv_goto (tgt := 19) hx hb dX5_power_13 (by decide) ?_
    exact k_lret hC hr hlk dX5_power_19 (by first | (rw [if_neg zc5]) | (rw [if_pos zc5, e_j]))
theorem s_rec_lo (f : Nat → Int32) (n : Nat) {j : Nat} (h : j < 502) : s_rec f n j = f j := by
  unfold s_rec s_cpy
  split
  · rw [s_fl_out _ _ _ _ _ (by omega), s_fl_out _ _ _ _ _ (by omega), s_fl_out _ _ _ _ _ (by omega), s_fl_out _ _ _ _ _ (by omega)]
  · rw [s_fl_out _ _ _ _ _ (by omega)]
theorem s_rec_hi (f : Nat → Int32) (n : Nat) (hn : n ≤ 4) {j : Nat} (h : 2510 ≤ j) : s_rec f n j = f j := by
  unfold s_rec s_cpy
  split
  · rw [s_fl_out _ _ _ _ _ (by omega), s_fl_out _ _ _ _ _ (by omega), s_fl_out _ _ _ _ _ (by omega), s_fl_out _ _ _ _ _ (by omega)]
  · rw [s_fl_out _ _ _ _ _ (by omega)]
def s_acG (f : Nat → Int32) (cn : Nat) (e0 sp : Int32) (i : Nat) : Nat → Int32 := s_fl (upd (upd f (62 + 44 * cn) e0) (62 + 44 * cn + 1) sp) (62 + 44 * cn + 2) (fun t => f (2510 + t)) i
def s_acU (f : Nat → Int32) (cn : Nat) (e0 sp : Int32) : Nat → Int32 := upd (s_acG f cn e0 sp 42) 61 (nI (cn + 1))
set_option maxHeartbeats 4000000 in
set_option maxRecDepth 100000 in
theorem c_X5_addCard (l : Launch) (g : kG) (o : Nat) (q : Nat) (f : Nat → Int32) (n : Nat) (e0 : Int32) (sp : Int32) (cn : Nat) (hc : f 61 = nI cn) (hcn : cn < 10) : MI l yX5_addCard cX5_addCard 5 (some .int) (rr 1 20) [.ref o, .int (e0), .int (sp)] ((RP g o q f n)) g 0 0 (RA o q) (fun r H1 => r = nI cn ∧ RP g o q (s_acU f cn e0 sp) (n) H1) := by
  refine kOf (by decide) (Nat.le_of_ble_eq_true rfl) (fun p e s m below meth c ls hC hr hlk hin hK hP hl => ?_)
  have hx := hC.1
  have hb := hC.2.1
  have hml := hC.2.2.1
  have hown := hC.2.2.2.1
  have hts := hC.2.2.2.2
  have hl : lv_has ls 5 [(0, .ref o), (1, .int (e0)), (2, .int (sp))] := hl
  have hS : va_S (RA o q) s.heap s.heap [] := va_S.rf
  refine lv_aload_n hx hb dX5_addCard_0 rfl (lvG hl rfl) ?_
  refine r_row hC hK hP dX5_addCard_1 ?_
  refine lv_bipush (v := nI 61) hx hb dX5_addCard_4 (by decide) ?_
  refine r_ald (k := 61) hC hK hP (by omega) dX5_addCard_6 ?_
  rw [hc]
  refine lv_istore_n (lv' := [(3, .int (nI cn)), (0, .ref o), (1, .int (e0)), (2, .int (sp))]) hx hb dX5_addCard_7 rfl hl (by decide) rfl (fun ls hl => ?_)
  refine lv_aload_n hx hb dX5_addCard_8 rfl (lvG hl rfl) ?_
  refine r_row hC hK hP dX5_addCard_9 ?_
  refine lv_iload_n hx hb dX5_addCard_12 rfl (lvG hl rfl) ?_
  refine k_callPI (k_goS (rest := [.ref q]) hC hK (c_X5_endAt l g cn) L_X5_X5_endAt (⟨⟨Nat.le_of_ble_eq_true rfl, Nat.le_of_ble_eq_true rfl⟩, ⟨rfl, rfl⟩, ⟨Nat.le_of_ble_eq_true rfl, Nat.le_of_ble_eq_true rfl⟩⟩) (trivial) rfl hl.1 rfl (Nat.le_of_ble_eq_true rfl) dX5_addCard_13) ?_
  refine lv_iload_n hx hb dX5_addCard_16 rfl (lvG hl rfl) ?_
  refine r_ast (k := 62 + 44 * cn) hC hK hP hS (by omega) dX5_addCard_17 (fun H_1 locs_2 hP_3 hS_4 => ?_)
  refine lv_aload_n hx hb dX5_addCard_18 rfl (lvG hl rfl) ?_
  refine r_row hC hK hP_3 dX5_addCard_19 ?_
  refine lv_iload_n hx hb dX5_addCard_22 rfl (lvG hl rfl) ?_
  refine k_callPI (k_goS (rest := [.ref q]) hC hK (c_X5_endAt l g cn) L_X5_X5_endAt (⟨⟨Nat.le_of_ble_eq_true rfl, Nat.le_of_ble_eq_true rfl⟩, ⟨rfl, rfl⟩, ⟨Nat.le_of_ble_eq_true rfl, Nat.le_of_ble_eq_true rfl⟩⟩) (trivial) rfl hl.1 rfl (Nat.le_of_ble_eq_true rfl) dX5_addCard_23) ?_
  refine lv_iconst (v := nI 1) hx hb dX5_addCard_26 (by decide) ?_
  refine n_iadd hC dX5_addCard_27 ?_
  refine lv_iload_n hx hb dX5_addCard_28 rfl (lvG hl rfl) ?_
  refine r_ast (k := 62 + 44 * cn + 1) hC hK hP_3 hS_4 (by omega) dX5_addCard_29 (fun H_5 locs_6 hP_7 hS_8 => ?_)
  refine lv_iconst (v := nI 0) hx hb dX5_addCard_30 (by decide) ?_
  refine lv_istore (lv' := [(4, .int (nI 0)), (3, .int (nI cn)), (0, .ref o), (1, .int (e0)), (2, .int (sp))]) hx hb dX5_addCard_31 hl (by decide) rfl (fun ls hl => ?_)
  have key_9 : ∀ (k_10 : Nat) (i : Nat) (F : Nat → Int32) (H_l33 : Heap) (locs_l33 : List Loc) (hP_l33 : RP g o q F n H_l33) (hS_l33 : va_S (RA o q) s.heap H_l33 locs_l33) (hi : i ≤ 42) (hF : F = s_acG f cn e0 sp i) (hk_k_10 : 42 - i < k_10) (ls : Array Slot) (hl : lv_has ls 5 [(4, .int (nI i)), (3, .int (nI cn)), (0, .ref o), (1, .int (e0)), (2, .int (sp))]), W p l e (rr 1 20) s m [.ref o, .int (e0), .int (sp)].toArray below meth c H_l33 locs_l33 0 0 (MQ below (qI (RA o q) (fun r H1 => r = nI cn ∧ RP g o q (s_acU f cn e0 sp) (n) H1)) [.ref o, .int (e0), .int (sp)].toArray s 0 0 (RA o q)) (F0 m 33 ls ([])) := by
    intro k_10
    induction k_10 with
    | zero => intro i F H_l33 locs_l33 hP_l33 hS_l33 hi hF hk_k_10 ls hl; exact absurd hk_k_10 (Nat.not_lt_zero _)
    | succ k_10 ih_11 =>
      intro i F H_l33 locs_l33 hP_l33 hS_l33 hi hF hk_k_10 ls hl
      refine lv_iload hx hb dX5_addCard_33 (lvG hl rfl) ?_
      refine lv_bipush (v := nI 42) hx hb dX5_addCard_35 (by decide) ?_
      refine n_icmp_ge (tgt := 69) hC dX5_addCard_37 (by omega) (by omega) (by decide) (fun zc37 => ?_) (fun zc37 => ?_)
      · refine lv_aload_n hx hb dX5_addCard_69 rfl (lvG hl rfl) ?_
        refine r_row hC hK hP_l33 dX5_addCard_70 ?_
        refine lv_bipush (v := nI 61) hx hb dX5_addCard_73 (by decide) ?_
        refine lv_dup2_11 hx hb dX5_addCard_75 rfl rfl ?_
        refine r_ald (k := 61) hC hK hP_l33 (by omega) dX5_addCard_76 ?_
        rw [show F 61 = nI cn by rw [hF]; unfold s_acG; rw [s_fl_out _ _ _ _ _ (by omega), upd_ne _ _ _ _ (by omega), upd_ne _ _ _ _ (by omega), hc]]
        refine lv_iconst (v := nI 1) hx hb dX5_addCard_77 (by decide) ?_
        refine n_iadd hC dX5_addCard_78 ?_
        refine r_ast (k := 61) hC hK hP_l33 hS_l33 (by omega) dX5_addCard_79 (fun H_12 locs_13 hP_14 hS_15 => ?_)
        refine lv_iload_n hx hb dX5_addCard_80 rfl (lvG hl rfl) ?_
        exact k_iretM hC hr hlk hS_15 dX5_addCard_81 (by refine ⟨rfl, ?_⟩; unfold s_acU; rw [hF, show i = 42 by omega] at hP_14; exact hP_14)
      · refine lv_aload_n hx hb dX5_addCard_40 rfl (lvG hl rfl) ?_
        refine r_row hC hK hP_l33 dX5_addCard_41 ?_
        refine lv_iload_n hx hb dX5_addCard_44 rfl (lvG hl rfl) ?_
        refine k_callPI (k_goS (rest := [.ref q]) hC hK (c_X5_at l g cn) L_X5_X5_at (⟨⟨Nat.le_of_ble_eq_true rfl, Nat.le_of_ble_eq_true rfl⟩, ⟨rfl, rfl⟩, ⟨Nat.le_of_ble_eq_true rfl, Nat.le_of_ble_eq_true rfl⟩⟩) (trivial) rfl hl.1 rfl (Nat.le_of_ble_eq_true rfl) dX5_addCard_45) ?_
        refine lv_iload hx hb dX5_addCard_48 (lvG hl rfl) ?_
        refine n_iadd hC dX5_addCard_50 ?_
        refine lv_aload_n hx hb dX5_addCard_51 rfl (lvG hl rfl) ?_
        refine r_row hC hK hP_l33 dX5_addCard_52 ?_
        refine lv_sipush (v := nI 2510) hx hb dX5_addCard_55 (by decide) ?_
        refine lv_iload hx hb dX5_addCard_58 (lvG hl rfl) ?_
        refine n_iadd hC dX5_addCard_60 ?_
        refine r_ald (k := 2510 + i) hC hK hP_l33 (by omega) dX5_addCard_61 ?_
        refine r_ast (k := 62 + 44 * cn + 2 + i) hC hK hP_l33 hS_l33 (by omega) dX5_addCard_62 (fun H_16 locs_17 hP_18 hS_19 => ?_)
        refine n_iinc (lv' := [(4, .int (nI (i + 1))), (3, .int (nI cn)), (0, .ref o), (1, .int (e0)), (2, .int (sp))]) hC dX5_addCard_63 hl rfl (by decide) rfl (fun ls hl => ?_)
        refine lv_goto (tgt := 33) hx hb dX5_addCard_66 (by decide) ?_
        exact ih_11 (i + 1) (upd F (62 + 44 * cn + 2 + i) (F (2510 + i))) _ _ hP_18 hS_19 (by first | omega | assumption | rfl) (by rw [show F (2510 + i) = f (2510 + i) by rw [hF]; unfold s_acG; rw [s_fl_out _ _ _ _ _ (by omega), upd_ne _ _ _ _ (by omega), upd_ne _ _ _ _ (by omega)], hF]; exact s_fl_succ _ _ (fun t => f (2510 + t)) i) (by omega) ls (lv_sub hl [0, 1, 2, 3, 4] rfl)
  exact key_9 ((42 - 0) + 1) 0 (upd (upd f (62 + 44 * cn) e0) (62 + 44 * cn + 1) sp) _ _ hP_7 hS_8 (by first | rfl | omega | assumption) ((s_fl_0 _ _ _).symm) (Nat.lt_succ_self _) ls (lv_sub hl [0, 1, 2, 3, 4] rfl)
abbrev s_p01 (f : Nat → Int32) (st : Nat) : Nat → Int32 := fun k => f (19 + 21 * st + k)
abbrev s_okF (f : Nat → Int32) : Prop := ¬ f 16 = nI 0 ∧ ¬ s_cnt (s_p01 f 0) 21 = 0 ∧ ¬ s_cnt (s_p01 f 1) 21 = 0
def s_fcD (f : Nat → Int32) : Nat → Int32 := fun k => s_dr (s_p01 f (k / 21)) (k % 21)
def s_fcG (f : Nat → Int32) (n : Nat) (i : Nat) : Nat → Int32 := s_fl (s_rec f n) 2510 (s_fcD f) i
def s_fcU (f : Nat → Int32) (n cn : Nat) : Nat → Int32 := s_acU (upd (s_fcG f n 42) 16 (nI 0)) cn (f 17) (f 18)
def s_fcR (f : Nat → Int32) (cn : Nat) : Int32 := if s_okF f then (if cn = 10 then cCAP else nI cn) else cILL
def s_fcF (f : Nat → Int32) (n cn : Nat) : Nat → Int32 := if s_okF f ∧ ¬ cn = 10 then s_fcU f n cn else f
def s_fcN (f : Nat → Int32) (n cn : Nat) : Nat := if s_okF f ∧ ¬ cn = 10 then s_recn n else n
theorem s_fcG_lo (f : Nat → Int32) (n i : Nat) {j : Nat} (h : j < 502) : s_fcG f n i j = f j := by unfold s_fcG; rw [s_fl_out _ _ _ _ _ (by omega), s_rec_lo _ _ h]
theorem s_p01_eq {f F : Nat → Int32} {st : Nat} (hst : st ≤ 1) (h : ∀ j, j < 502 → F j = f j) : ∀ k, k < 21 → s_p01 F st k = s_p01 f st k := fun k hk => h _ (by omega)
theorem s_dn_eq {a b : Nat → Int32} : ∀ k, (∀ i, i < k → a i = b i) → s_dn a k = s_dn b k
  | 0, _ => rfl
  | k + 1, h => by unfold s_dn; rw [h k (by omega), s_dn_eq k (fun i hi => h i (by omega))]
theorem s_up_eq {a b : Nat → Int32} : ∀ m k, (∀ i, i < k + m → a i = b i) → s_up a m k = s_up b m k
  | 0, _, _ => rfl
  | m + 1, k, h => by unfold s_up; rw [h k (by omega), s_up_eq m (k + 1) (fun i hi => h i (by omega))]
theorem L_X5_X5_addCard : LnkV RX5 57 yX5_addCard cX5_addCard 5 (some .int) 2 := ⟨w_729, w_731, w_29, w_60, w_732, ⟨by decide +kernel, by decide +kernel⟩, by decide +kernel⟩
theorem L_X5_X5_drafted : LnkV RX5 53 yX5_drafted cX5_drafted 7 (some .int) 2 := ⟨w_722, w_724, w_28, w_60, w_725, ⟨by decide +kernel, by decide +kernel⟩, by decide +kernel⟩
theorem s_dr_eq {a b : Nat → Int32} {k : Nat} (hk : k ≤ 20) (h : ∀ i, i < 22 → a i = b i) : s_dr a k = s_dr b k := by
  unfold s_dr
  rw [s_dn_eq (k + 1) (fun i hi => h i (by omega)), s_up_eq (21 - k) k (fun i hi => h i (by omega))]
  have h1 := s_dn_le b (k + 1)
  have h2 := s_up_in b (21 - k) k
  unfold s_drw
  rw [h _ (show s_up b (21 - k) k < 22 by omega), h _ (show s_dn b (k + 1) - 1 < 22 by omega)]
  by_cases e : s_dn b (k + 1) = 0
  · rw [if_pos e, h _ (show s_up b (21 - k) k < 22 by omega)]
  · rw [if_neg e, h _ (show s_dn b (k + 1) - 1 < 22 by omega)]
set_option maxHeartbeats 4000000 in
set_option maxRecDepth 100000 in
theorem c_X5_finishCard (l : Launch) (g : kG) (o : Nat) (q : Nat) (f : Nat → Int32) (n : Nat) (cn : Nat) (hc : f 61 = nI cn) (hcn : cn ≤ 10) : MI l yX5_finishCard cX5_finishCard 2 (some .int) (rr 2 49) [.ref o] ((RP g o q f n)) g 0 0 (RA o q) (fun r H1 => r = s_fcR f cn ∧ RP g o q (s_fcF f n cn) (s_fcN f n cn) H1) := by
  refine kOf (by decide) (Nat.le_of_ble_eq_true rfl) (fun p e s m below meth c ls hC hr hlk hin hK hP hl => ?_)
  have hx := hC.1
  have hb := hC.2.1
  have hml := hC.2.2.1
  have hown := hC.2.2.2.1
  have hts := hC.2.2.2.2
  have hl : lv_has ls 2 [(0, .ref o)] := hl
  have hS : va_S (RA o q) s.heap s.heap [] := va_S.rf
  have hq0 := s_cnt_le (fun k => f (19 + 21 * 0 + k)) 21
  have hq1 := s_cnt_le (fun k => f (19 + 21 * 1 + k)) 21
  have hn4 := hP.2.1
  refine lv_aload_n hx hb dX5_finishCard_0 rfl (lvG hl rfl) ?_
  refine r_row hC hK hP dX5_finishCard_1 ?_
  refine lv_bipush (v := nI 16) hx hb dX5_finishCard_4 (by decide) ?_
  refine r_ald (k := 16) hC hK hP (by omega) dX5_finishCard_6 ?_
  refine z_if_eq (tgt := 26) hC dX5_finishCard_7 (by decide) (fun zc7 => ?_) (fun zc7 => ?_)
  · refine lv_ldc (v := (-2000000002 : Int32)) hx hb hown (hts _ w_653) dX5_finishCard_26 ?_
    exact k_iretM hC hr hlk hS dX5_finishCard_28 (by have hno : ¬ s_okF f := (by grind); unfold s_fcR s_fcF s_fcN; rw [if_neg hno, if_neg (fun q => hno q.1), if_neg (fun q => hno q.1)]; exact ⟨rfl, hP⟩)
  · refine lv_aload_n hx hb dX5_finishCard_10 rfl (lvG hl rfl) ?_
    refine lv_iconst (v := nI 0) hx hb dX5_finishCard_11 (by decide) ?_
    refine k_callPI (k_goV (rest := []) hC hK (c_X5_points l g o q f n 0 (by first | assumption | omega)) L_X5_X5_points (⟨⟨Nat.le_of_ble_eq_true rfl, Nat.le_of_ble_eq_true rfl⟩, ⟨rfl, rfl⟩, ⟨Nat.le_of_ble_eq_true rfl, Nat.le_of_ble_eq_true rfl⟩⟩) (hP.recv hK) (hP) rfl hl.1 rfl (Nat.le_of_ble_eq_true rfl) dX5_finishCard_12) ?_
    refine n_if_eq (tgt := 26) hC dX5_finishCard_15 (by omega) (by decide) (fun zc15 => ?_) (fun zc15 => ?_)
    · refine lv_ldc (v := (-2000000002 : Int32)) hx hb hown (hts _ w_653) dX5_finishCard_26 ?_
      exact k_iretM hC hr hlk hS dX5_finishCard_28 (by have hno : ¬ s_okF f := (by grind); unfold s_fcR s_fcF s_fcN; rw [if_neg hno, if_neg (fun q => hno q.1), if_neg (fun q => hno q.1)]; exact ⟨rfl, hP⟩)
    · refine lv_aload_n hx hb dX5_finishCard_18 rfl (lvG hl rfl) ?_
      refine lv_iconst (v := nI 1) hx hb dX5_finishCard_19 (by decide) ?_
      refine k_callPI (k_goV (rest := []) hC hK (c_X5_points l g o q f n 1 (by first | assumption | omega)) L_X5_X5_points (⟨⟨Nat.le_of_ble_eq_true rfl, Nat.le_of_ble_eq_true rfl⟩, ⟨rfl, rfl⟩, ⟨Nat.le_of_ble_eq_true rfl, Nat.le_of_ble_eq_true rfl⟩⟩) (hP.recv hK) (hP) rfl hl.1 rfl (Nat.le_of_ble_eq_true rfl) dX5_finishCard_20) ?_
      refine n_if_ne (tgt := 29) hC dX5_finishCard_23 (by omega) (by decide) (fun zc23 => ?_) (fun zc23 => ?_)
      · refine lv_aload_n hx hb dX5_finishCard_29 rfl (lvG hl rfl) ?_
        refine r_row hC hK hP dX5_finishCard_30 ?_
        refine lv_bipush (v := nI 61) hx hb dX5_finishCard_33 (by decide) ?_
        refine r_ald (k := 61) hC hK hP (by omega) dX5_finishCard_35 ?_
        rw [hc]
        refine lv_bipush (v := nI 10) hx hb dX5_finishCard_36 (by decide) ?_
        refine n_icmp_ne (tgt := 44) hC dX5_finishCard_38 (by omega) (by omega) (by decide) (fun zc38 => ?_) (fun zc38 => ?_)
        · refine lv_aload_n hx hb dX5_finishCard_44 rfl (lvG hl rfl) ?_
          refine k_callMV0 (k_goV (rest := []) hC hK (c_X5_record l g o q f n) L_X5_X5_record (⟨⟨Nat.le_of_ble_eq_true rfl, Nat.le_of_ble_eq_true rfl⟩, ⟨rfl, rfl⟩, ⟨Nat.le_of_ble_eq_true rfl, Nat.le_of_ble_eq_true rfl⟩⟩) (hP.recv hK) (hP) rfl hl.1 rfl (Nat.le_of_ble_eq_true rfl) dX5_finishCard_45) hS (fun _ h => h) (fun H_1 locs_2 hP_3 _ _ hS_4 => ?_)
          refine lv_iconst (v := nI 0) hx hb dX5_finishCard_48 (by decide) ?_
          refine lv_istore_n (lv' := [(1, .int (nI 0)), (0, .ref o)]) hx hb dX5_finishCard_49 rfl hl (by decide) rfl (fun ls hl => ?_)
          have key_5 : ∀ (k_6 : Nat) (i : Nat) (F : Nat → Int32) (H_l50 : Heap) (locs_l50 : List Loc) (hP_l50 : RP g o q F (s_recn n) H_l50) (hS_l50 : va_S (RA o q) s.heap H_l50 locs_l50) (hi : i ≤ 42) (hF : F = s_fcG f n i) (hk_k_6 : 42 - i < k_6) (ls : Array Slot) (hl : lv_has ls 2 [(1, .int (nI i)), (0, .ref o)]), W p l e (rr 2 49) s m [.ref o].toArray below meth c H_l50 locs_l50 0 0 (MQ below (qI (RA o q) (fun r H1 => r = s_fcR f cn ∧ RP g o q (s_fcF f n cn) (s_fcN f n cn) H1)) [.ref o].toArray s 0 0 (RA o q)) (F0 m 50 ls ([])) := by
            intro k_6
            induction k_6 with
            | zero => intro i F H_l50 locs_l50 hP_l50 hS_l50 hi hF hk_k_6 ls hl; exact absurd hk_k_6 (Nat.not_lt_zero _)
            | succ k_6 ih_7 =>
              intro i F H_l50 locs_l50 hP_l50 hS_l50 hi hF hk_k_6 ls hl
              refine lv_iload_n hx hb dX5_finishCard_50 rfl (lvG hl rfl) ?_
              refine lv_bipush (v := nI 42) hx hb dX5_finishCard_51 (by decide) ?_
              refine n_icmp_ge (tgt := 84) hC dX5_finishCard_53 (by omega) (by omega) (by decide) (fun zc53 => ?_) (fun zc53 => ?_)
              · refine lv_aload_n hx hb dX5_finishCard_84 rfl (lvG hl rfl) ?_
                refine r_row hC hK hP_l50 dX5_finishCard_85 ?_
                refine lv_bipush (v := nI 16) hx hb dX5_finishCard_88 (by decide) ?_
                refine lv_iconst (v := nI 0) hx hb dX5_finishCard_90 (by decide) ?_
                refine r_ast (k := 16) hC hK hP_l50 hS_l50 (by omega) dX5_finishCard_91 (fun H_8 locs_9 hP_10 hS_11 => ?_)
                refine lv_aload_n hx hb dX5_finishCard_92 rfl (lvG hl rfl) ?_
                refine lv_aload_n hx hb dX5_finishCard_93 rfl (lvG hl rfl) ?_
                refine r_row hC hK hP_10 dX5_finishCard_94 ?_
                refine lv_bipush (v := nI 17) hx hb dX5_finishCard_97 (by decide) ?_
                refine r_ald (k := 17) hC hK hP_10 (by omega) dX5_finishCard_99 ?_
                rw [show upd F 16 (nI 0) 17 = f 17 by rw [upd_ne _ _ _ _ (by omega), hF, s_fcG_lo _ _ _ (by omega)]]
                refine lv_aload_n hx hb dX5_finishCard_100 rfl (lvG hl rfl) ?_
                refine r_row hC hK hP_10 dX5_finishCard_101 ?_
                refine lv_bipush (v := nI 18) hx hb dX5_finishCard_104 (by decide) ?_
                refine r_ald (k := 18) hC hK hP_10 (by omega) dX5_finishCard_106 ?_
                rw [show upd F 16 (nI 0) 18 = f 18 by rw [upd_ne _ _ _ _ (by omega), hF, s_fcG_lo _ _ _ (by omega)]]
                refine k_callMI0 (k_goV (rest := []) hC hK (c_X5_addCard l g o q (upd F 16 (nI 0)) (s_recn n) (f 17) (f 18) (cn) (by rw [upd_ne _ _ _ _ (by omega), hF, s_fcG_lo _ _ _ (by omega), hc]) (by omega)) L_X5_X5_addCard (⟨⟨Nat.le_of_ble_eq_true rfl, Nat.le_of_ble_eq_true rfl⟩, ⟨rfl, rfl⟩, ⟨Nat.le_of_ble_eq_true rfl, Nat.le_of_ble_eq_true rfl⟩⟩) (hP_10.recv hK) (hP_10) rfl hl.1 rfl (Nat.le_of_ble_eq_true rfl) dX5_finishCard_107) hS_11 (fun _ h => h) (fun r_ H_12 locs_13 hq_ _ _ hS_15 => ?_)
                obtain ⟨rfl, hP_14⟩ := hq_
                exact k_iretM hC hr hlk hS_15 dX5_finishCard_110 (by have hok : s_okF f := ⟨zc7, zc15, zc23⟩; unfold s_fcR s_fcF s_fcN s_fcU; rw [if_pos hok, if_neg zc38, if_pos ⟨hok, zc38⟩, if_pos ⟨hok, zc38⟩]; rw [hF, show i = 42 by omega] at hP_14; exact ⟨rfl, hP_14⟩)
              · refine lv_aload_n hx hb dX5_finishCard_56 rfl (lvG hl rfl) ?_
                refine r_row hC hK hP_l50 dX5_finishCard_57 ?_
                refine lv_sipush (v := nI 2510) hx hb dX5_finishCard_60 (by decide) ?_
                refine lv_iload_n hx hb dX5_finishCard_63 rfl (lvG hl rfl) ?_
                refine n_iadd hC dX5_finishCard_64 ?_
                refine lv_aload_n hx hb dX5_finishCard_65 rfl (lvG hl rfl) ?_
                refine lv_iload_n hx hb dX5_finishCard_66 rfl (lvG hl rfl) ?_
                refine lv_bipush (v := nI 21) hx hb dX5_finishCard_67 (by decide) ?_
                refine n_idiv hC dX5_finishCard_69 (by omega) (by omega) (by omega) ?_
                refine lv_iload_n hx hb dX5_finishCard_70 rfl (lvG hl rfl) ?_
                refine lv_bipush (v := nI 21) hx hb dX5_finishCard_71 (by decide) ?_
                refine n_irem hC dX5_finishCard_73 (by omega) (by omega) (by omega) ?_
                refine k_callPI (k_goV (rest := [.int (nI (2510 + i)), .ref q]) hC hK (c_X5_drafted l g o q F (s_recn n) (i / 21) (i % 21) (by first | assumption | omega) (by first | assumption | omega)) L_X5_X5_drafted (⟨⟨Nat.le_of_ble_eq_true rfl, Nat.le_of_ble_eq_true rfl⟩, ⟨rfl, rfl⟩, ⟨Nat.le_of_ble_eq_true rfl, Nat.le_of_ble_eq_true rfl⟩⟩) (hP_l50.recv hK) (hP_l50) rfl hl.1 rfl (Nat.le_of_ble_eq_true rfl) dX5_finishCard_74) ?_
                refine r_ast (k := 2510 + i) hC hK hP_l50 hS_l50 (by omega) dX5_finishCard_77 (fun H_16 locs_17 hP_18 hS_19 => ?_)
                refine n_iinc (lv' := [(1, .int (nI (i + 1))), (0, .ref o)]) hC dX5_finishCard_78 hl rfl (by decide) rfl (fun ls hl => ?_)
                refine lv_goto (tgt := 50) hx hb dX5_finishCard_81 (by decide) ?_
                exact ih_7 (i + 1) (upd F (2510 + i) (s_dr (fun k => F (19 + 21 * (i / 21) + k)) (i % 21))) _ _ hP_18 hS_19 (by first | omega | assumption | rfl) (by rw [show (s_dr (fun k => F (19 + 21 * (i / 21) + k)) (i % 21)) = s_fcD f i from s_dr_eq (by omega) (fun k hk => by show F _ = f _; rw [hF, s_fcG_lo _ _ _ (by omega)]), hF]; exact s_fl_succ _ _ _ _) (by omega) ls (lv_sub hl [0, 1] rfl)
          exact key_5 ((42 - 0) + 1) 0 (s_rec f n) _ _ hP_3 hS_4 (by first | rfl | omega | assumption) ((s_fl_0 _ _ _).symm) (Nat.lt_succ_self _) ls (lv_sub hl [0, 1] rfl)
        · refine lv_ldc (v := (-2000000003 : Int32)) hx hb hown (hts _ w_721) dX5_finishCard_41 ?_
          exact k_iretM hC hr hlk hS dX5_finishCard_43 (by have hok : s_okF f := ⟨zc7, zc15, zc23⟩; unfold s_fcR s_fcF s_fcN; rw [if_pos hok, if_pos zc38, if_neg (fun q => q.2 zc38), if_neg (fun q => q.2 zc38)]; exact ⟨rfl, hP⟩)
      · refine lv_ldc (v := (-2000000002 : Int32)) hx hb hown (hts _ w_653) dX5_finishCard_26 ?_
        exact k_iretM hC hr hlk hS dX5_finishCard_28 (by have hno : ¬ s_okF f := (by grind); unfold s_fcR s_fcF s_fcN; rw [if_neg hno, if_neg (fun q => hno q.1), if_neg (fun q => hno q.1)]; exact ⟨rfl, hP⟩)
