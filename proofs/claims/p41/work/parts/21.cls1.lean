theorem end_iff (v : Int32) : (nI 0 ≤ v ∧ v ≤ nI 1) ↔ (v = nI 0 ∨ v = nI 1) := by
  constructor
  · intro h
    obtain ⟨j, hj, e⟩ := in_nat (n := 1) (by decide) h
    rcases (show j = 0 ∨ j = 1 by omega) with q | q
    · exact Or.inl (by rw [e, q])
    · exact Or.inr (by rw [e, q])
  · rintro (h | h) <;> rw [h] <;> decide
set_option maxHeartbeats 4000000 in
set_option maxRecDepth 100000 in
theorem c_J9_floorDiv_7cf53 (l : Launch) (g : kG) (x : Int32) (y : Int32) (hy : ¬ y = 0) : PI l yJ9_floorDiv_7cf53 cJ9_floorDiv_7cf53 3 (some .int) (rr 0 0) [.int (x), .int (y)] ((fun _ => True)) g (q_fd x y) := by
  refine kOfF (by decide +kernel) (Nat.le_of_ble_eq_true rfl) (fun p e s m below meth c ls hC hr hlk hin hK hP hl => ?_)
  have hx := hC.1
  have hb := hC.2.1
  have hml := hC.2.2.1
  have hown := hC.2.2.2.1
  have hts := hC.2.2.2.2
  have hl : lv_has ls 3 [(0, .int (x)), (1, .int (y))] := hl
  refine lv_iload_n hx hb dJ9_floorDiv_7cf53_0 rfl (lvG hl rfl) ?_
  refine lv_iload_n hx hb dJ9_floorDiv_7cf53_1 rfl (lvG hl rfl) ?_
  refine lv_idiv hx hb dJ9_floorDiv_7cf53_2 (hy) ?_
  refine lv_istore_n (lv' := [(2, .int (x / y)), (0, .int (x)), (1, .int (y))]) hx hb dJ9_floorDiv_7cf53_3 rfl hl (by decide) rfl (fun ls hl => ?_)
  refine lv_iload_n hx hb dJ9_floorDiv_7cf53_4 rfl (lvG hl rfl) ?_
  refine lv_iload_n hx hb dJ9_floorDiv_7cf53_5 rfl (lvG hl rfl) ?_
  refine lv_ixor hx hb dJ9_floorDiv_7cf53_6 ?_
  refine z_if_ge (tgt := 21) hC dJ9_floorDiv_7cf53_7 (by decide) (fun zc7 => ?_) (fun zc7 => ?_)
  · refine lv_iload_n hx hb dJ9_floorDiv_7cf53_21 rfl (lvG hl rfl) ?_
    exact k_iret hC hr hlk dJ9_floorDiv_7cf53_22 (by unfold q_fd; first | (rw [if_pos zc7]; done) | (rw [if_neg zc7, if_pos zc14]; done))
  · refine lv_iload_n hx hb dJ9_floorDiv_7cf53_10 rfl (lvG hl rfl) ?_
    refine lv_iload_n hx hb dJ9_floorDiv_7cf53_11 rfl (lvG hl rfl) ?_
    refine lv_imul hx hb dJ9_floorDiv_7cf53_12 ?_
    refine lv_iload_n hx hb dJ9_floorDiv_7cf53_13 rfl (lvG hl rfl) ?_
    refine lv_icmp_eq (tgt := 21) hx hb dJ9_floorDiv_7cf53_14 (by decide) (fun zc14 => ?_) (fun zc14 => ?_)
    · refine lv_iload_n hx hb dJ9_floorDiv_7cf53_21 rfl (lvG hl rfl) ?_
      exact k_iret hC hr hlk dJ9_floorDiv_7cf53_22 (by unfold q_fd; first | (rw [if_pos zc7]; done) | (rw [if_neg zc7, if_pos zc14]; done))
    · refine lv_iload_n hx hb dJ9_floorDiv_7cf53_17 rfl (lvG hl rfl) ?_
      refine lv_iconst (v := nI 1) hx hb dJ9_floorDiv_7cf53_18 (by decide) ?_
      refine lv_isub hx hb dJ9_floorDiv_7cf53_19 ?_
      exact k_iret hC hr hlk dJ9_floorDiv_7cf53_20 (by unfold q_fd; rw [if_neg zc7, if_neg zc14])
set_option maxHeartbeats 4000000 in
set_option maxRecDepth 100000 in
theorem c_J9_floorDiv_f86c9 (l : Launch) (g : kG) (x : Int64) (y : Int64) (hy : ¬ y = 0) : PL l yJ9_floorDiv_f86c9 cJ9_floorDiv_f86c9 6 (some .long) (rr 0 0) [.long (x), .long (y)] ((fun _ => True)) g (q_fl x y) := by
  refine kOfF (by decide +kernel) (Nat.le_of_ble_eq_true rfl) (fun p e s m below meth c ls hC hr hlk hin hK hP hl => ?_)
  have hx := hC.1
  have hb := hC.2.1
  have hml := hC.2.2.1
  have hown := hC.2.2.2.1
  have hts := hC.2.2.2.2
  have hl : lv_has ls 6 [(0, .long (x)), (2, .long (y))] := hl
  refine lv_lload_n hx hb dJ9_floorDiv_f86c9_0 rfl (lvG hl rfl) ?_
  refine lv_lload_n hx hb dJ9_floorDiv_f86c9_1 rfl (lvG hl rfl) ?_
  refine lv_ldiv hx hb dJ9_floorDiv_f86c9_2 (hy) ?_
  refine lv_lstore (lv' := [(4, .long (x / y)), (0, .long (x)), (2, .long (y))]) hx hb dJ9_floorDiv_f86c9_3 hl (by decide) rfl (fun ls hl => ?_)
  refine lv_lload_n hx hb dJ9_floorDiv_f86c9_5 rfl (lvG hl rfl) ?_
  refine lv_lload_n hx hb dJ9_floorDiv_f86c9_6 rfl (lvG hl rfl) ?_
  refine lv_lxor hx hb dJ9_floorDiv_f86c9_7 ?_
  refine lv_lconst (v := lN 0) hx hb dJ9_floorDiv_f86c9_8 (by decide) ?_
  refine j_lge (tgt := 27) hC dJ9_floorDiv_f86c9_9 dJ9_floorDiv_f86c9_10 (by decide) (fun zc9 => ?_) (fun zc9 => ?_)
  · refine lv_lload hx hb dJ9_floorDiv_f86c9_27 (lvG hl rfl) ?_
    exact k_lret hC hr hlk dJ9_floorDiv_f86c9_29 (by unfold q_fl; first | (rw [if_pos zc9]; done) | (rw [if_neg zc9, if_pos zc18]; done))
  · refine lv_lload hx hb dJ9_floorDiv_f86c9_13 (lvG hl rfl) ?_
    refine lv_lload_n hx hb dJ9_floorDiv_f86c9_15 rfl (lvG hl rfl) ?_
    refine lv_lmul hx hb dJ9_floorDiv_f86c9_16 ?_
    refine lv_lload_n hx hb dJ9_floorDiv_f86c9_17 rfl (lvG hl rfl) ?_
    refine j_leq (tgt := 27) hC dJ9_floorDiv_f86c9_18 dJ9_floorDiv_f86c9_19 (by decide) (fun zc18 => ?_) (fun zc18 => ?_)
    · refine lv_lload hx hb dJ9_floorDiv_f86c9_27 (lvG hl rfl) ?_
      exact k_lret hC hr hlk dJ9_floorDiv_f86c9_29 (by unfold q_fl; first | (rw [if_pos zc9]; done) | (rw [if_neg zc9, if_pos zc18]; done))
    · refine lv_lload hx hb dJ9_floorDiv_f86c9_22 (lvG hl rfl) ?_
      refine lv_lconst (v := lN 1) hx hb dJ9_floorDiv_f86c9_24 (by decide) ?_
      refine lv_lsub hx hb dJ9_floorDiv_f86c9_25 ?_
      exact k_lret hC hr hlk dJ9_floorDiv_f86c9_26 (by unfold q_fl; rw [if_neg zc9, if_neg zc18])
set_option maxHeartbeats 4000000 in
set_option maxRecDepth 100000 in
theorem c_X4_isWithin (l : Launch) (g : kG) (v : Int32) (lo : Int32) (hi : Int32) : PI l yX4_isWithin cX4_isWithin 3 (some .boolean) (rr 0 0) [.int (v), .int (lo), .int (hi)] ((fun _ => True)) g (if lo ≤ v ∧ v ≤ hi then 1 else 0) := by
  refine kOf (by decide) (Nat.le_of_ble_eq_true rfl) (fun p e s m below meth c ls hC hr hlk hin hK hP hl => ?_)
  have hx := hC.1
  have hb := hC.2.1
  have hml := hC.2.2.1
  have hown := hC.2.2.2.1
  have hts := hC.2.2.2.2
  have hl : lv_has ls 3 [(0, .int (v)), (1, .int (lo)), (2, .int (hi))] := hl
  refine lv_iload_n hx hb dX4_isWithin_0 rfl (lvG hl rfl) ?_
  refine lv_iload_n hx hb dX4_isWithin_1 rfl (lvG hl rfl) ?_
  refine lv_icmp_lt (tgt := 14) hx hb dX4_isWithin_2 (by decide) (fun zc2 => ?_) (fun zc2 => ?_)
  · refine lv_iconst (v := nI 0) hx hb dX4_isWithin_14 (by decide) ?_
    exact k_zret hC hr hlk dX4_isWithin_15 k_nar0 (by first | rfl | grind [] | grind [nI])
  · refine lv_iload_n hx hb dX4_isWithin_5 rfl (lvG hl rfl) ?_
    refine lv_iload_n hx hb dX4_isWithin_6 rfl (lvG hl rfl) ?_
    refine lv_icmp_gt (tgt := 14) hx hb dX4_isWithin_7 (by decide) (fun zc7 => ?_) (fun zc7 => ?_)
    · refine lv_iconst (v := nI 0) hx hb dX4_isWithin_14 (by decide) ?_
      exact k_zret hC hr hlk dX4_isWithin_15 k_nar0 (by first | rfl | grind [] | grind [nI])
    · refine lv_iconst (v := nI 1) hx hb dX4_isWithin_10 (by decide) ?_
      refine lv_goto (tgt := 15) hx hb dX4_isWithin_11 (by decide) ?_
      exact k_zret hC hr hlk dX4_isWithin_15 k_nar1 (by first | rfl | grind [] | grind [nI])
set_option maxHeartbeats 4000000 in
set_option maxRecDepth 100000 in
theorem c_X4_isEnd (l : Launch) (g : kG) (v : Int32) : PI l yX4_isEnd cX4_isEnd 1 (some .boolean) (rr 0 0) [.int (v)] ((fun _ => True)) g (if nI 0 ≤ v ∧ v ≤ nI 1 then 1 else 0) := by
  refine kOf (by decide) (Nat.le_of_ble_eq_true rfl) (fun p e s m below meth c ls hC hr hlk hin hK hP hl => ?_)
  have hx := hC.1
  have hb := hC.2.1
  have hml := hC.2.2.1
  have hown := hC.2.2.2.1
  have hts := hC.2.2.2.2
  have hl : lv_has ls 1 [(0, .int (v))] := hl
  refine lv_iload_n hx hb dX4_isEnd_0 rfl (lvG hl rfl) ?_
  refine z_if_eq (tgt := 9) hC dX4_isEnd_1 (by decide) (fun zc1 => ?_) (fun zc1 => ?_)
  · refine lv_iconst (v := nI 1) hx hb dX4_isEnd_9 (by decide) ?_
    refine lv_goto (tgt := 14) hx hb dX4_isEnd_10 (by decide) ?_
    exact k_zret hC hr hlk dX4_isEnd_14 k_nar1 (by first | (rw [if_pos ((end_iff v).mpr (Or.inl zc1))]; rfl) | (rw [if_pos ((end_iff v).mpr (Or.inr zc6))]; rfl) | (rw [if_neg (fun q => ((end_iff v).mp q).elim zc1 zc6)]; rfl))
  · refine lv_iload_n hx hb dX4_isEnd_4 rfl (lvG hl rfl) ?_
    refine lv_iconst (v := nI 1) hx hb dX4_isEnd_5 (by decide) ?_
    refine lv_icmp_ne (tgt := 13) hx hb dX4_isEnd_6 (by decide) (fun zc6 => ?_) (fun zc6 => ?_)
    · refine lv_iconst (v := nI 0) hx hb dX4_isEnd_13 (by decide) ?_
      exact k_zret hC hr hlk dX4_isEnd_14 k_nar0 (by first | (rw [if_pos ((end_iff v).mpr (Or.inl zc1))]; rfl) | (rw [if_pos ((end_iff v).mpr (Or.inr zc6))]; rfl) | (rw [if_neg (fun q => ((end_iff v).mp q).elim zc1 zc6)]; rfl))
    · refine lv_iconst (v := nI 1) hx hb dX4_isEnd_9 (by decide) ?_
      refine lv_goto (tgt := 14) hx hb dX4_isEnd_10 (by decide) ?_
      exact k_zret hC hr hlk dX4_isEnd_14 k_nar1 (by first | (rw [if_pos ((end_iff v).mpr (Or.inl zc1))]; rfl) | (rw [if_pos ((end_iff v).mpr (Or.inr zc6))]; rfl) | (rw [if_neg (fun q => ((end_iff v).mp q).elim zc1 zc6)]; rfl))
set_option maxHeartbeats 4000000 in
set_option maxRecDepth 100000 in
theorem c_X4_isStroke (l : Launch) (g : kG) (v : Int32) : PI l yX4_isStroke cX4_isStroke 1 (some .boolean) (rr 0 0) [.int (v)] ((fun _ => True)) g (if nI 0 ≤ v ∧ v ≤ nI 1 then 1 else 0) := by
  refine kOf (by decide) (Nat.le_of_ble_eq_true rfl) (fun p e s m below meth c ls hC hr hlk hin hK hP hl => ?_)
  have hx := hC.1
  have hb := hC.2.1
  have hml := hC.2.2.1
  have hown := hC.2.2.2.1
  have hts := hC.2.2.2.2
  have hl : lv_has ls 1 [(0, .int (v))] := hl
  refine lv_iload_n hx hb dX4_isStroke_0 rfl (lvG hl rfl) ?_
  refine z_if_eq (tgt := 9) hC dX4_isStroke_1 (by decide) (fun zc1 => ?_) (fun zc1 => ?_)
  · refine lv_iconst (v := nI 1) hx hb dX4_isStroke_9 (by decide) ?_
    refine lv_goto (tgt := 14) hx hb dX4_isStroke_10 (by decide) ?_
    exact k_zret hC hr hlk dX4_isStroke_14 k_nar1 (by first | (rw [if_pos ((end_iff v).mpr (Or.inl zc1))]; rfl) | (rw [if_pos ((end_iff v).mpr (Or.inr zc6))]; rfl) | (rw [if_neg (fun q => ((end_iff v).mp q).elim zc1 zc6)]; rfl))
  · refine lv_iload_n hx hb dX4_isStroke_4 rfl (lvG hl rfl) ?_
    refine lv_iconst (v := nI 1) hx hb dX4_isStroke_5 (by decide) ?_
    refine lv_icmp_ne (tgt := 13) hx hb dX4_isStroke_6 (by decide) (fun zc6 => ?_) (fun zc6 => ?_)
    · refine lv_iconst (v := nI 0) hx hb dX4_isStroke_13 (by decide) ?_
      exact k_zret hC hr hlk dX4_isStroke_14 k_nar0 (by first | (rw [if_pos ((end_iff v).mpr (Or.inl zc1))]; rfl) | (rw [if_pos ((end_iff v).mpr (Or.inr zc6))]; rfl) | (rw [if_neg (fun q => ((end_iff v).mp q).elim zc1 zc6)]; rfl))
    · refine lv_iconst (v := nI 1) hx hb dX4_isStroke_9 (by decide) ?_
      refine lv_goto (tgt := 14) hx hb dX4_isStroke_10 (by decide) ?_
      exact k_zret hC hr hlk dX4_isStroke_14 k_nar1 (by first | (rw [if_pos ((end_iff v).mpr (Or.inl zc1))]; rfl) | (rw [if_pos ((end_iff v).mpr (Or.inr zc6))]; rfl) | (rw [if_neg (fun q => ((end_iff v).mp q).elim zc1 zc6)]; rfl))
theorem L_X4_X4_isWithin : LnkS RX4 47 yX4_isWithin cX4_isWithin 3 (some .boolean) 3 := ⟨w_201, w_202, w_25, w_203, ⟨by decide +kernel, by decide +kernel⟩, by decide +kernel⟩
set_option maxHeartbeats 4000000 in
set_option maxRecDepth 100000 in
theorem c_X4_isEvent (l : Launch) (g : kG) (v : Int32) : PI l yX4_isEvent cX4_isEvent 1 (some .boolean) (rr 1 22) [.int (v)] ((fun _ => True)) g (if nI 0 ≤ v ∧ v ≤ nI 3 then 1 else 0) := by
  refine kOf (by decide) (Nat.le_of_ble_eq_true rfl) (fun p e s m below meth c ls hC hr hlk hin hK hP hl => ?_)
  have hx := hC.1
  have hb := hC.2.1
  have hml := hC.2.2.1
  have hown := hC.2.2.2.1
  have hts := hC.2.2.2.2
  have hl : lv_has ls 1 [(0, .int (v))] := hl
  refine lv_iload_n hx hb dX4_isEvent_0 rfl (lvG hl rfl) ?_
  refine lv_iconst (v := nI 0) hx hb dX4_isEvent_1 (by decide) ?_
  refine lv_iconst (v := nI 3) hx hb dX4_isEvent_2 (by decide) ?_
  refine k_callPI (k_goS (rest := []) hC hK (c_X4_isWithin l g v (nI 0) (nI 3)) L_X4_X4_isWithin (⟨⟨Nat.le_of_ble_eq_true rfl, Nat.le_of_ble_eq_true rfl⟩, ⟨rfl, rfl⟩, ⟨Nat.le_of_ble_eq_true rfl, Nat.le_of_ble_eq_true rfl⟩⟩) (trivial) rfl hl.1 rfl (Nat.le_of_ble_eq_true rfl) dX4_isEvent_3) ?_
  exact k_zret hC hr hlk dX4_isEvent_6 k_narb (by first | rfl | grind [] | grind [nI])
set_option maxHeartbeats 4000000 in
set_option maxRecDepth 100000 in
theorem c_X4_isStation (l : Launch) (g : kG) (v : Int32) : PI l yX4_isStation cX4_isStation 1 (some .boolean) (rr 1 22) [.int (v)] ((fun _ => True)) g (if nI 0 ≤ v ∧ v ≤ nI 20 then 1 else 0) := by
  refine kOf (by decide) (Nat.le_of_ble_eq_true rfl) (fun p e s m below meth c ls hC hr hlk hin hK hP hl => ?_)
  have hx := hC.1
  have hb := hC.2.1
  have hml := hC.2.2.1
  have hown := hC.2.2.2.1
  have hts := hC.2.2.2.2
  have hl : lv_has ls 1 [(0, .int (v))] := hl
  refine lv_iload_n hx hb dX4_isStation_0 rfl (lvG hl rfl) ?_
  refine lv_iconst (v := nI 0) hx hb dX4_isStation_1 (by decide) ?_
  refine lv_bipush (v := nI 20) hx hb dX4_isStation_2 (by decide) ?_
  refine k_callPI (k_goS (rest := []) hC hK (c_X4_isWithin l g v (nI 0) (nI 20)) L_X4_X4_isWithin (⟨⟨Nat.le_of_ble_eq_true rfl, Nat.le_of_ble_eq_true rfl⟩, ⟨rfl, rfl⟩, ⟨Nat.le_of_ble_eq_true rfl, Nat.le_of_ble_eq_true rfl⟩⟩) (trivial) rfl hl.1 rfl (Nat.le_of_ble_eq_true rfl) dX4_isStation_4) ?_
  exact k_zret hC hr hlk dX4_isStation_7 k_narb (by first | rfl | grind [] | grind [nI])
set_option maxHeartbeats 4000000 in
set_option maxRecDepth 100000 in
theorem c_X4_isSpeed (l : Launch) (g : kG) (v : Int32) : PI l yX4_isSpeed cX4_isSpeed 1 (some .boolean) (rr 1 22) [.int (v)] ((fun _ => True)) g (if nI 1 ≤ v ∧ v ≤ nI 600 then 1 else 0) := by
  refine kOf (by decide) (Nat.le_of_ble_eq_true rfl) (fun p e s m below meth c ls hC hr hlk hin hK hP hl => ?_)
  have hx := hC.1
  have hb := hC.2.1
  have hml := hC.2.2.1
  have hown := hC.2.2.2.1
  have hts := hC.2.2.2.2
  have hl : lv_has ls 1 [(0, .int (v))] := hl
  refine lv_iload_n hx hb dX4_isSpeed_0 rfl (lvG hl rfl) ?_
  refine lv_iconst (v := nI 1) hx hb dX4_isSpeed_1 (by decide) ?_
  refine lv_sipush (v := nI 600) hx hb dX4_isSpeed_2 (by decide) ?_
  refine k_callPI (k_goS (rest := []) hC hK (c_X4_isWithin l g v (nI 1) (nI 600)) L_X4_X4_isWithin (⟨⟨Nat.le_of_ble_eq_true rfl, Nat.le_of_ble_eq_true rfl⟩, ⟨rfl, rfl⟩, ⟨Nat.le_of_ble_eq_true rfl, Nat.le_of_ble_eq_true rfl⟩⟩) (trivial) rfl hl.1 rfl (Nat.le_of_ble_eq_true rfl) dX4_isSpeed_5) ?_
  exact k_zret hC hr hlk dX4_isSpeed_8 k_narb (by first | rfl | grind [] | grind [nI])
set_option maxHeartbeats 4000000 in
set_option maxRecDepth 100000 in
theorem c_X4_areValves (l : Launch) (g : kG) (va : Int32) (vc : Int32) (vr : Int32) (vm : Int32) : PI l yX4_areValves cX4_areValves 4 (some .boolean) (rr 1 22) [.int (va), .int (vc), .int (vr), .int (vm)] ((fun _ => True)) g (if ((nI 0 ≤ va ∧ va ≤ nI 5) ∧ (nI 1 ≤ vc ∧ vc ≤ nI 18) ∧ (nI 2 ≤ vr ∧ vr ≤ nI 20) ∧ (nI 0 ≤ vm ∧ vm ≤ nI 19)) ∧ va < vc ∧ vc < vr then 1 else 0) := by
  refine kOf (by decide) (Nat.le_of_ble_eq_true rfl) (fun p e s m below meth c ls hC hr hlk hin hK hP hl => ?_)
  have hx := hC.1
  have hb := hC.2.1
  have hml := hC.2.2.1
  have hown := hC.2.2.2.1
  have hts := hC.2.2.2.2
  have hl : lv_has ls 4 [(0, .int (va)), (1, .int (vc)), (2, .int (vr)), (3, .int (vm))] := hl
  refine lv_iload_n hx hb dX4_areValves_0 rfl (lvG hl rfl) ?_
  refine lv_iconst (v := nI 0) hx hb dX4_areValves_1 (by decide) ?_
  refine lv_iconst (v := nI 5) hx hb dX4_areValves_2 (by decide) ?_
  refine k_callPI (k_goS (rest := []) hC hK (c_X4_isWithin l g va (nI 0) (nI 5)) L_X4_X4_isWithin (⟨⟨Nat.le_of_ble_eq_true rfl, Nat.le_of_ble_eq_true rfl⟩, ⟨rfl, rfl⟩, ⟨Nat.le_of_ble_eq_true rfl, Nat.le_of_ble_eq_true rfl⟩⟩) (trivial) rfl hl.1 rfl (Nat.le_of_ble_eq_true rfl) dX4_areValves_3) ?_
  refine b_ifeq (tgt := 53) hC dX4_areValves_6 (by decide) (fun zc6 => ?_) (fun zc6 => ?_)
  · refine lv_iconst (v := nI 0) hx hb dX4_areValves_53 (by decide) ?_
    exact k_zret hC hr hlk dX4_areValves_54 k_nar0 (by first | rfl | grind [] | grind [nI])
  · refine lv_iload_n hx hb dX4_areValves_9 rfl (lvG hl rfl) ?_
    refine lv_iconst (v := nI 1) hx hb dX4_areValves_10 (by decide) ?_
    refine lv_bipush (v := nI 18) hx hb dX4_areValves_11 (by decide) ?_
    refine k_callPI (k_goS (rest := []) hC hK (c_X4_isWithin l g vc (nI 1) (nI 18)) L_X4_X4_isWithin (⟨⟨Nat.le_of_ble_eq_true rfl, Nat.le_of_ble_eq_true rfl⟩, ⟨rfl, rfl⟩, ⟨Nat.le_of_ble_eq_true rfl, Nat.le_of_ble_eq_true rfl⟩⟩) (trivial) rfl hl.1 rfl (Nat.le_of_ble_eq_true rfl) dX4_areValves_13) ?_
    refine b_ifeq (tgt := 53) hC dX4_areValves_16 (by decide) (fun zc16 => ?_) (fun zc16 => ?_)
    · refine lv_iconst (v := nI 0) hx hb dX4_areValves_53 (by decide) ?_
      exact k_zret hC hr hlk dX4_areValves_54 k_nar0 (by first | rfl | grind [] | grind [nI])
    · refine lv_iload_n hx hb dX4_areValves_19 rfl (lvG hl rfl) ?_
      refine lv_iconst (v := nI 2) hx hb dX4_areValves_20 (by decide) ?_
      refine lv_bipush (v := nI 20) hx hb dX4_areValves_21 (by decide) ?_
      refine k_callPI (k_goS (rest := []) hC hK (c_X4_isWithin l g vr (nI 2) (nI 20)) L_X4_X4_isWithin (⟨⟨Nat.le_of_ble_eq_true rfl, Nat.le_of_ble_eq_true rfl⟩, ⟨rfl, rfl⟩, ⟨Nat.le_of_ble_eq_true rfl, Nat.le_of_ble_eq_true rfl⟩⟩) (trivial) rfl hl.1 rfl (Nat.le_of_ble_eq_true rfl) dX4_areValves_23) ?_
      refine b_ifeq (tgt := 53) hC dX4_areValves_26 (by decide) (fun zc26 => ?_) (fun zc26 => ?_)
      · refine lv_iconst (v := nI 0) hx hb dX4_areValves_53 (by decide) ?_
        exact k_zret hC hr hlk dX4_areValves_54 k_nar0 (by first | rfl | grind [] | grind [nI])
      · refine lv_iload_n hx hb dX4_areValves_29 rfl (lvG hl rfl) ?_
        refine lv_iconst (v := nI 0) hx hb dX4_areValves_30 (by decide) ?_
        refine lv_bipush (v := nI 19) hx hb dX4_areValves_31 (by decide) ?_
        refine k_callPI (k_goS (rest := []) hC hK (c_X4_isWithin l g vm (nI 0) (nI 19)) L_X4_X4_isWithin (⟨⟨Nat.le_of_ble_eq_true rfl, Nat.le_of_ble_eq_true rfl⟩, ⟨rfl, rfl⟩, ⟨Nat.le_of_ble_eq_true rfl, Nat.le_of_ble_eq_true rfl⟩⟩) (trivial) rfl hl.1 rfl (Nat.le_of_ble_eq_true rfl) dX4_areValves_33) ?_
        refine b_ifeq (tgt := 53) hC dX4_areValves_36 (by decide) (fun zc36 => ?_) (fun zc36 => ?_)
        · refine lv_iconst (v := nI 0) hx hb dX4_areValves_53 (by decide) ?_
          exact k_zret hC hr hlk dX4_areValves_54 k_nar0 (by first | rfl | grind [] | grind [nI])
        · refine lv_iload_n hx hb dX4_areValves_39 rfl (lvG hl rfl) ?_
          refine lv_iload_n hx hb dX4_areValves_40 rfl (lvG hl rfl) ?_
          refine lv_icmp_le (tgt := 53) hx hb dX4_areValves_41 (by decide) (fun zc41 => ?_) (fun zc41 => ?_)
          · refine lv_iconst (v := nI 0) hx hb dX4_areValves_53 (by decide) ?_
            exact k_zret hC hr hlk dX4_areValves_54 k_nar0 (by first | rfl | grind [] | grind [nI])
          · refine lv_iload_n hx hb dX4_areValves_44 rfl (lvG hl rfl) ?_
            refine lv_iload_n hx hb dX4_areValves_45 rfl (lvG hl rfl) ?_
            refine lv_icmp_le (tgt := 53) hx hb dX4_areValves_46 (by decide) (fun zc46 => ?_) (fun zc46 => ?_)
            · refine lv_iconst (v := nI 0) hx hb dX4_areValves_53 (by decide) ?_
              exact k_zret hC hr hlk dX4_areValves_54 k_nar0 (by first | rfl | grind [] | grind [nI])
            · refine lv_iconst (v := nI 1) hx hb dX4_areValves_49 (by decide) ?_
              refine lv_goto (tgt := 54) hx hb dX4_areValves_50 (by decide) ?_
              exact k_zret hC hr hlk dX4_areValves_54 k_nar1 (by first | rfl | grind [] | grind [nI])
theorem L_X4_J9_floorDiv_7cf53 : LnkS RX4 291 yJ9_floorDiv_7cf53 cJ9_floorDiv_7cf53 3 (some .int) 2 := ⟨w_292, w_293, w_31, w_294, ⟨by decide +kernel, by decide +kernel⟩, by decide +kernel⟩
set_option maxHeartbeats 4000000 in
set_option maxRecDepth 100000 in
theorem c_X4_quotient (l : Launch) (g : kG) (x : Int32) (y : Int32) : PI l yX4_quotient cX4_quotient 2 (some .int) (rr 1 22) [.int (x), .int (y)] ((fun _ => True)) g (q_i x y) := by
  refine kOf (by decide) (Nat.le_of_ble_eq_true rfl) (fun p e s m below meth c ls hC hr hlk hin hK hP hl => ?_)
  have hx := hC.1
  have hb := hC.2.1
  have hml := hC.2.2.1
  have hown := hC.2.2.2.1
  have hts := hC.2.2.2.2
  have hl : lv_has ls 2 [(0, .int (x)), (1, .int (y))] := hl
  refine lv_iload_n hx hb dX4_quotient_0 rfl (lvG hl rfl) ?_
  refine z_if_ne (tgt := 8) hC dX4_quotient_1 (by decide) (fun zc1 => ?_) (fun zc1 => ?_)
  · refine lv_iload_n hx hb dX4_quotient_8 rfl (lvG hl rfl) ?_
    refine lv_iload_n hx hb dX4_quotient_9 rfl (lvG hl rfl) ?_
    refine k_callPI (k_goS (rest := []) hC hK (c_J9_floorDiv_7cf53 l g x y (by first | assumption | omega)) L_X4_J9_floorDiv_7cf53 (⟨⟨Nat.le_of_ble_eq_true rfl, Nat.le_of_ble_eq_true rfl⟩, ⟨rfl, rfl⟩, ⟨Nat.le_of_ble_eq_true rfl, Nat.le_of_ble_eq_true rfl⟩⟩) (trivial) rfl hl.1 rfl (Nat.le_of_ble_eq_true rfl) dX4_quotient_10) ?_
    exact k_iret hC hr hlk dX4_quotient_13 (by unfold q_i; first | (rw [if_pos zc1]; done) | (rw [if_neg zc1]; done))
  · refine lv_iconst (v := nI 0) hx hb dX4_quotient_4 (by decide) ?_
    refine lv_goto (tgt := 13) hx hb dX4_quotient_5 (by decide) ?_
    exact k_iret hC hr hlk dX4_quotient_13 (by unfold q_i; first | (rw [if_pos zc1]; done) | (rw [if_neg zc1]; done))
theorem L_X4_J9_floorDiv_f86c9 : LnkS RX4 294 yJ9_floorDiv_f86c9 cJ9_floorDiv_f86c9 6 (some .long) 2 := ⟨w_466, w_467, w_31, w_468, ⟨by decide +kernel, by decide +kernel⟩, by decide +kernel⟩
set_option maxHeartbeats 4000000 in
set_option maxRecDepth 100000 in
theorem c_X4_longQuotient (l : Launch) (g : kG) (x : Int64) (y : Int64) : PL l yX4_longQuotient cX4_longQuotient 4 (some .long) (rr 1 25) [.long (x), .long (y)] ((fun _ => True)) g (q_l x y) := by
  refine kOf (by decide) (Nat.le_of_ble_eq_true rfl) (fun p e s m below meth c ls hC hr hlk hin hK hP hl => ?_)
  have hx := hC.1
  have hb := hC.2.1
  have hml := hC.2.2.1
  have hown := hC.2.2.2.1
  have hts := hC.2.2.2.2
  have hl : lv_has ls 4 [(0, .long (x)), (2, .long (y))] := hl
  refine lv_lload_n hx hb dX4_longQuotient_0 rfl (lvG hl rfl) ?_
  refine lv_lconst (v := lN 0) hx hb dX4_longQuotient_1 (by decide) ?_
  refine j_lne (tgt := 10) hC dX4_longQuotient_2 dX4_longQuotient_3 (by decide) (fun zc2 => ?_) (fun zc2 => ?_)
  · refine lv_lload_n hx hb dX4_longQuotient_10 rfl (lvG hl rfl) ?_
    refine lv_lload_n hx hb dX4_longQuotient_11 rfl (lvG hl rfl) ?_
    refine k_callPL (k_goS (rest := []) hC hK (c_J9_floorDiv_f86c9 l g x y (by first | assumption | omega)) L_X4_J9_floorDiv_f86c9 (⟨⟨Nat.le_of_ble_eq_true rfl, Nat.le_of_ble_eq_true rfl⟩, ⟨rfl, rfl⟩, ⟨Nat.le_of_ble_eq_true rfl, Nat.le_of_ble_eq_true rfl⟩⟩) (trivial) rfl hl.1 rfl (Nat.le_of_ble_eq_true rfl) dX4_longQuotient_12) ?_
    exact k_lret hC hr hlk dX4_longQuotient_15 (by unfold q_l; first | (rw [if_pos zc2]; done) | (rw [if_neg zc2]; done))
  · refine lv_lconst (v := lN 0) hx hb dX4_longQuotient_6 (by decide) ?_
    refine lv_goto (tgt := 15) hx hb dX4_longQuotient_7 (by decide) ?_
    exact k_lret hC hr hlk dX4_longQuotient_15 (by unfold q_l; first | (rw [if_pos zc2]; done) | (rw [if_neg zc2]; done))
def k_ct (h : Nat → Int32) : Nat → Nat
  | 0 => 0
  | k + 1 => k_ct h k + (if h k = (-1 : Int32) then 0 else 1)
theorem k_ct_le (h : Nat → Int32) : ∀ k, k_ct h k ≤ k
  | 0 => Nat.le_refl _
  | k + 1 => by
    have q := k_ct_le h k
    unfold k_ct
    split <;> omega
def k_dn (h : Nat → Int32) : Nat → Nat
  | 0 => 0
  | k + 1 => if h k = (-1 : Int32) then k_dn h k else k + 1
def k_up (h : Nat → Int32) : Nat → Nat → Nat
  | 0, k => k
  | m + 1, k => if h k = (-1 : Int32) then k_up h m (k + 1) else k
set_option maxHeartbeats 4000000 in
set_option maxRecDepth 100000 in
theorem c_X4_countPoints (l : Launch) (g : kG) (y : Nat) (h : Nat → Int32) : PI l yX4_countPoints cX4_countPoints 3 (some .int) (rr 0 0) [.ref y] ((va_P g.1 kCl [cI g y 21 h])) g (nI (k_ct h 21)) := by
  refine kOf (by decide) (Nat.le_of_ble_eq_true rfl) (fun p e s m below meth c ls hC hr hlk hin hK hP hl => ?_)
  have hx := hC.1
  have hb := hC.2.1
  have hml := hC.2.2.1
  have hown := hC.2.2.2.1
  have hts := hC.2.2.2.2
  have hl : lv_has ls 3 [(0, .ref y)] := hl
  refine lv_iconst (v := nI 0) hx hb dX4_countPoints_0 (by decide) ?_
  refine lv_istore_n (lv' := [(1, .int (nI 0)), (0, .ref y)]) hx hb dX4_countPoints_1 rfl hl (by decide) rfl (fun ls hl => ?_)
  refine lv_iconst (v := nI 0) hx hb dX4_countPoints_2 (by decide) ?_
  refine lv_istore_n (lv' := [(2, .int (nI 0)), (1, .int (nI 0)), (0, .ref y)]) hx hb dX4_countPoints_3 rfl hl (by decide) rfl (fun ls hl => ?_)
  have key_1 : ∀ (k_2 : Nat) (i : Nat) (ct : Nat)  (hi : i ≤ 21) (hs : ct = k_ct h i) (hk_k_2 : 21 - i < k_2) (ls : Array Slot) (hl : lv_has ls 3 [(2, .int (nI i)), (1, .int (nI ct)), (0, .ref y)]), W p l e (rr 0 0) s m [.ref y].toArray below meth c s.heap [] 0 0 (MQ below (vp_Si (fun r => r = nI (k_ct h 21))) [.ref y].toArray s 0 0 (fun _ => False)) (F0 m 4 ls ([])) := by
    intro k_2
    induction k_2 with
    | zero => intro i ct hi hs hk_k_2 ls hl; exact absurd hk_k_2 (Nat.not_lt_zero _)
    | succ k_2 ih_3 =>
      intro i ct hi hs hk_k_2 ls hl
      refine lv_iload_n hx hb dX4_countPoints_4 rfl (lvG hl rfl) ?_
      refine lv_bipush (v := nI 21) hx hb dX4_countPoints_5 (by decide) ?_
      refine n_icmp_ge (tgt := 26) hC dX4_countPoints_7 (by omega) (by omega) (by decide) (fun zc7 => ?_) (fun zc7 => ?_)
      · refine lv_iload_n hx hb dX4_countPoints_26 rfl (lvG hl rfl) ?_
        exact k_iret hC hr hlk dX4_countPoints_27 (by rw [hs, show i = 21 by omega])
      · refine lv_aload_n hx hb dX4_countPoints_10 rfl (lvG hl rfl) ?_
        refine lv_iload_n hx hb dX4_countPoints_11 rfl (lvG hl rfl) ?_
        refine k_ald (k := i) hC hK hP 0 rfl (by omega) (by decide) dX4_countPoints_12 ?_
        refine lv_iconst (v := (-1 : Int32)) hx hb dX4_countPoints_13 (by decide) ?_
        refine lv_icmp_eq (tgt := 20) hx hb dX4_countPoints_14 (by decide) (fun zc14 => ?_) (fun zc14 => ?_)
        · refine n_iinc (lv' := [(2, .int (nI (i + 1))), (1, .int (nI ct)), (0, .ref y)]) hC dX4_countPoints_20 hl rfl (by decide) rfl (fun ls hl => ?_)
          refine lv_goto (tgt := 4) hx hb dX4_countPoints_23 (by decide) ?_
          exact ih_3 (i + 1) ct  (by first | omega | assumption | rfl) (by unfold k_ct; rw [← hs]; first | (rw [if_pos zc14]; rfl) | (rw [if_neg zc14]; done)) (by omega) ls (lv_sub hl [0, 1, 2] rfl)
        · refine n_iinc (lv' := [(1, .int (nI (ct + 1))), (2, .int (nI i)), (0, .ref y)]) hC dX4_countPoints_17 hl rfl (by decide) rfl (fun ls hl => ?_)
          refine n_iinc (lv' := [(2, .int (nI (i + 1))), (1, .int (nI (ct + 1))), (0, .ref y)]) hC dX4_countPoints_20 hl rfl (by decide) rfl (fun ls hl => ?_)
          refine lv_goto (tgt := 4) hx hb dX4_countPoints_23 (by decide) ?_
          exact ih_3 (i + 1) (ct + 1)  (by first | omega | assumption | rfl) (by unfold k_ct; rw [← hs]; first | (rw [if_pos zc14]; rfl) | (rw [if_neg zc14]; done)) (by omega) ls (lv_sub hl [0, 1, 2] rfl)
  exact key_1 ((21 - 0) + 1) 0 0  (by first | rfl | omega | assumption) (by first | rfl | omega | assumption) (Nat.lt_succ_self _) ls (lv_sub hl [0, 1, 2] rfl)
def k_up1 (h : Nat → Int32) (st : Nat) : Int32 := nI (k_dn h (st + 1)) + (-1)
def k_fr1 (h : Nat → Int32) (st : Nat) : Int32 := if k_up h (21 - st) st = 21 then (-1 : Int32) else nI (k_up h (21 - st) st)
theorem k_dn_le (p : Nat → Int32) : ∀ k, k_dn p k ≤ k
  | 0 => Nat.le_refl 0
  | k + 1 => by
    have h := k_dn_le p k
    unfold k_dn
    split <;> omega
theorem k_up_in (p : Nat → Int32) : ∀ m k, k ≤ k_up p m k ∧ k_up p m k ≤ k + m
  | 0, k => ⟨Nat.le_refl _, Nat.le_refl _⟩
  | m + 1, k => by
    have h := k_up_in p m (k + 1)
    unfold k_up
    split <;> omega
set_option maxHeartbeats 4000000 in
set_option maxRecDepth 100000 in
theorem c_X4_pointUpTo (l : Launch) (g : kG) (y : Nat) (h : Nat → Int32) (st : Nat) (hst : st ≤ 20) : PI l yX4_pointUpTo cX4_pointUpTo 3 (some .int) (rr 0 0) [.ref y, .int (nI st)] ((va_P g.1 kCl [cI g y 21 h])) g (k_up1 h st) := by
  refine kOf (by decide) (Nat.le_of_ble_eq_true rfl) (fun p e s m below meth c ls hC hr hlk hin hK hP hl => ?_)
  have hx := hC.1
  have hb := hC.2.1
  have hml := hC.2.2.1
  have hown := hC.2.2.2.1
  have hts := hC.2.2.2.2
  have hl : lv_has ls 3 [(0, .ref y), (1, .int (nI st))] := hl
  refine lv_iload_n hx hb dX4_pointUpTo_0 rfl (lvG hl rfl) ?_
  refine lv_istore_n (lv' := [(2, .int (nI st)), (0, .ref y), (1, .int (nI st))]) hx hb dX4_pointUpTo_1 rfl hl (by decide) rfl (fun ls hl => ?_)
  have hl : lv_has ls 3 [(2, .int (nI (st + 1) + (-1))), (0, .ref y), (1, .int (nI st))] := lv_eq hl (by rw [pk_m1])
  have key_1 : ∀ (k_2 : Nat) (w : Nat)  (hi : w ≤ st + 1) (hw : k_dn h w = k_dn h (st + 1)) (hk_k_2 : w < k_2) (ls : Array Slot) (hl : lv_has ls 3 [(2, .int (nI w + (-1))), (0, .ref y), (1, .int (nI st))]), W p l e (rr 0 0) s m [.ref y, .int (nI st)].toArray below meth c s.heap [] 0 0 (MQ below (vp_Si (fun r => r = k_up1 h st)) [.ref y, .int (nI st)].toArray s 0 0 (fun _ => False)) (F0 m 2 ls ([])) := by
    intro k_2
    induction k_2 with
    | zero => intro w hi hw hk_k_2 ls hl; exact absurd hk_k_2 (Nat.not_lt_zero _)
    | succ k_2 ih_3 =>
      intro w hi hw hk_k_2 ls hl
      refine lv_iload_n hx hb dX4_pointUpTo_2 rfl (lvG hl rfl) ?_
      refine z_if_lt (tgt := 21) hC dX4_pointUpTo_3 (by decide) (fun zc3 => ?_) (fun zc3 => ?_)
      · refine lv_iconst (v := (-1 : Int32)) hx hb dX4_pointUpTo_21 (by decide) ?_
        exact k_iret hC hr hlk dX4_pointUpTo_22 (by unfold k_up1; rw [← hw, show w = 0 from (pd_lt (by omega)).mp zc3]; show (-1 : Int32) = nI 0 + (-1); decide)
      · obtain ⟨z, rfl⟩ : ∃ z, w = z + 1 := ⟨w - 1, by have := mt (pd_lt (x := w) (by omega)).mpr zc3; omega⟩
        have hl : lv_has ls 3 [(2, .int (nI z)), (0, .ref y), (1, .int (nI st))] := lv_eq hl (by rw [pk_m1])
        refine lv_aload_n hx hb dX4_pointUpTo_6 rfl (lvG hl rfl) ?_
        refine lv_iload_n hx hb dX4_pointUpTo_7 rfl (lvG hl rfl) ?_
        refine k_ald (k := z) hC hK hP 0 rfl (by omega) (by decide) dX4_pointUpTo_8 ?_
        refine lv_iconst (v := (-1 : Int32)) hx hb dX4_pointUpTo_9 (by decide) ?_
        refine lv_icmp_eq (tgt := 15) hx hb dX4_pointUpTo_10 (by decide) (fun zc10 => ?_) (fun zc10 => ?_)
        · refine lv_iinc (v := (nI z) + (-1)) (lv' := [(2, .int ((nI z) + (-1))), (0, .ref y), (1, .int (nI st))]) hx hb dX4_pointUpTo_15 hl (k := 0) rfl rfl (by decide) rfl (fun ls hl => ?_)
          refine lv_goto (tgt := 2) hx hb dX4_pointUpTo_18 (by decide) ?_
          exact ih_3 z  (by first | omega | assumption | rfl) (by rw [← hw]; conv => { rhs; unfold k_dn }; rw [if_pos zc10]) (by omega) ls (lv_sub hl [0, 1, 2] rfl)
        · refine lv_iload_n hx hb dX4_pointUpTo_13 rfl (lvG hl rfl) ?_
          exact k_iret hC hr hlk dX4_pointUpTo_14 (by unfold k_up1; rw [← hw]; conv => { rhs; unfold k_dn }; rw [if_neg zc10, pk_m1])
  exact key_1 (((st + 1)) + 1) (st + 1)  (by first | rfl | omega | assumption) (by first | rfl | omega | assumption) (Nat.lt_succ_self _) ls (lv_sub hl [0, 1, 2] rfl)
set_option maxHeartbeats 4000000 in
set_option maxRecDepth 100000 in
theorem c_X4_pointFrom (l : Launch) (g : kG) (y : Nat) (h : Nat → Int32) (st : Nat) (hst : st ≤ 20) : PI l yX4_pointFrom cX4_pointFrom 3 (some .int) (rr 0 0) [.ref y, .int (nI st)] ((va_P g.1 kCl [cI g y 21 h])) g (k_fr1 h st) := by
  refine kOf (by decide) (Nat.le_of_ble_eq_true rfl) (fun p e s m below meth c ls hC hr hlk hin hK hP hl => ?_)
  have hx := hC.1
  have hb := hC.2.1
  have hml := hC.2.2.1
  have hown := hC.2.2.2.1
  have hts := hC.2.2.2.2
  have hl : lv_has ls 3 [(0, .ref y), (1, .int (nI st))] := hl
  refine lv_iload_n hx hb dX4_pointFrom_0 rfl (lvG hl rfl) ?_
  refine lv_istore_n (lv' := [(2, .int (nI st)), (0, .ref y), (1, .int (nI st))]) hx hb dX4_pointFrom_1 rfl hl (by decide) rfl (fun ls hl => ?_)
  have key_1 : ∀ (k_2 : Nat) (u : Nat)  (hu : st ≤ u ∧ u ≤ 21) (hw : k_up h (21 - u) u = k_up h (21 - st) st) (hk_k_2 : 21 - u < k_2) (ls : Array Slot) (hl : lv_has ls 3 [(2, .int (nI u)), (0, .ref y), (1, .int (nI st))]), W p l e (rr 0 0) s m [.ref y, .int (nI st)].toArray below meth c s.heap [] 0 0 (MQ below (vp_Si (fun r => r = k_fr1 h st)) [.ref y, .int (nI st)].toArray s 0 0 (fun _ => False)) (F0 m 2 ls ([])) := by
    intro k_2
    induction k_2 with
    | zero => intro u hu hw hk_k_2 ls hl; exact absurd hk_k_2 (Nat.not_lt_zero _)
    | succ k_2 ih_3 =>
      intro u hu hw hk_k_2 ls hl
      refine lv_iload_n hx hb dX4_pointFrom_2 rfl (lvG hl rfl) ?_
      refine lv_bipush (v := nI 21) hx hb dX4_pointFrom_3 (by decide) ?_
      refine n_icmp_ge (tgt := 23) hC dX4_pointFrom_5 (by omega) (by omega) (by decide) (fun zc5 => ?_) (fun zc5 => ?_)
      · refine lv_iconst (v := (-1 : Int32)) hx hb dX4_pointFrom_23 (by decide) ?_
        exact k_iret hC hr hlk dX4_pointFrom_24 (by have e1 : u = k_up h (21 - st) st := (by rw [← hw, show 21 - u = 0 by omega]; rfl); unfold k_fr1; rw [← e1, if_pos (by omega)])
      · refine lv_aload_n hx hb dX4_pointFrom_8 rfl (lvG hl rfl) ?_
        refine lv_iload_n hx hb dX4_pointFrom_9 rfl (lvG hl rfl) ?_
        refine k_ald (k := u) hC hK hP 0 rfl (by omega) (by decide) dX4_pointFrom_10 ?_
        refine lv_iconst (v := (-1 : Int32)) hx hb dX4_pointFrom_11 (by decide) ?_
        refine lv_icmp_eq (tgt := 17) hx hb dX4_pointFrom_12 (by decide) (fun zc12 => ?_) (fun zc12 => ?_)
        · refine n_iinc (lv' := [(2, .int (nI (u + 1))), (0, .ref y), (1, .int (nI st))]) hC dX4_pointFrom_17 hl rfl (by decide) rfl (fun ls hl => ?_)
          refine lv_goto (tgt := 2) hx hb dX4_pointFrom_20 (by decide) ?_
          exact ih_3 (u + 1)  (by first | omega | assumption | rfl) (by rw [← hw, show 21 - u = (21 - (u + 1)) + 1 by omega]; conv => { rhs; unfold k_up }; rw [if_pos zc12]) (by omega) ls (lv_sub hl [0, 1, 2] rfl)
        · refine lv_iload_n hx hb dX4_pointFrom_15 rfl (lvG hl rfl) ?_
          exact k_iret hC hr hlk dX4_pointFrom_16 (by have e1 : u = k_up h (21 - st) st := (by rw [← hw, show 21 - u = (20 - u) + 1 by omega]; conv => { rhs; unfold k_up }; rw [if_neg zc12]); unfold k_fr1; rw [← e1, if_neg (by omega)])
  exact key_1 ((21 - st) + 1) st  (by first | rfl | omega | assumption) (by first | rfl | omega | assumption) (Nat.lt_succ_self _) ls (lv_sub hl [0, 1, 2] rfl)
set_option maxHeartbeats 4000000 in
set_option maxRecDepth 100000 in
theorem c_X4_greatestOf (l : Launch) (g : kG) (y : Nat) (h : Nat → Int32) : PI l yX4_greatestOf cX4_greatestOf 3 (some .int) (rr 1 21) [.ref y] ((va_P g.1 kCl [cI g y 21 h])) g (s_mx h 20) := by
  refine kOf (by decide) (Nat.le_of_ble_eq_true rfl) (fun p e s m below meth c ls hC hr hlk hin hK hP hl => ?_)
  have hx := hC.1
  have hb := hC.2.1
  have hml := hC.2.2.1
  have hown := hC.2.2.2.1
  have hts := hC.2.2.2.2
  have hl : lv_has ls 3 [(0, .ref y)] := hl
  refine lv_aload_n hx hb dX4_greatestOf_0 rfl (lvG hl rfl) ?_
  refine lv_iconst (v := nI 0) hx hb dX4_greatestOf_1 (by decide) ?_
  refine k_ald (k := 0) hC hK hP 0 rfl (by omega) (by decide) dX4_greatestOf_2 ?_
  refine lv_istore_n (lv' := [(1, .int (h 0)), (0, .ref y)]) hx hb dX4_greatestOf_3 rfl hl (by decide) rfl (fun ls hl => ?_)
  refine lv_iconst (v := nI 1) hx hb dX4_greatestOf_4 (by decide) ?_
  refine lv_istore_n (lv' := [(2, .int (nI 1)), (1, .int (h 0)), (0, .ref y)]) hx hb dX4_greatestOf_5 rfl hl (by decide) rfl (fun ls hl => ?_)
  have key_1 : ∀ (k_2 : Nat) (i : Nat) (vv : Int32)  (hi : i ≤ 20) (hv : vv = s_mx h i) (hk_k_2 : 20 - i < k_2) (ls : Array Slot) (hl : lv_has ls 3 [(2, .int (nI (i + 1))), (1, .int (vv)), (0, .ref y)]), W p l e (rr 1 21) s m [.ref y].toArray below meth c s.heap [] 0 0 (MQ below (vp_Si (fun r => r = s_mx h 20)) [.ref y].toArray s 0 0 (fun _ => False)) (F0 m 6 ls ([])) := by
    intro k_2
    induction k_2 with
    | zero => intro i vv hi hv hk_k_2 ls hl; exact absurd hk_k_2 (Nat.not_lt_zero _)
    | succ k_2 ih_3 =>
      intro i vv hi hv hk_k_2 ls hl
      refine lv_iload_n hx hb dX4_greatestOf_6 rfl (lvG hl rfl) ?_
      refine lv_bipush (v := nI 21) hx hb dX4_greatestOf_7 (by decide) ?_
      refine n_icmp_ge (tgt := 26) hC dX4_greatestOf_9 (by omega) (by omega) (by decide) (fun zc9 => ?_) (fun zc9 => ?_)
      · refine lv_iload_n hx hb dX4_greatestOf_26 rfl (lvG hl rfl) ?_
        exact k_iret hC hr hlk dX4_greatestOf_27 (by rw [hv, show i = 20 by omega])
      · refine lv_iload_n hx hb dX4_greatestOf_12 rfl (lvG hl rfl) ?_
        refine lv_aload_n hx hb dX4_greatestOf_13 rfl (lvG hl rfl) ?_
        refine lv_iload_n hx hb dX4_greatestOf_14 rfl (lvG hl rfl) ?_
        refine k_ald (k := i + 1) hC hK hP 0 rfl (by omega) (by decide) dX4_greatestOf_15 ?_
        refine va_mmax hx hb (hml.trans hl.1.symm) hown (hts _ w_368) (hts _ w_369) (hts _ w_31) (hts _ w_370) (Nat.le_of_ble_eq_true rfl) (Nat.le_of_ble_eq_true rfl) (Nat.le_of_ble_eq_true rfl) (Nat.le_of_ble_eq_true rfl) dX4_greatestOf_16 ?_
        refine lv_istore_n (lv' := [(1, .int (if vv < h (i + 1) then h (i + 1) else vv)), (2, .int (nI (i + 1))), (0, .ref y)]) hx hb dX4_greatestOf_19 rfl hl (by decide) rfl (fun ls hl => ?_)
        refine n_iinc (lv' := [(2, .int (nI (i + 1 + 1))), (1, .int (if vv < h (i + 1) then h (i + 1) else vv)), (0, .ref y)]) hC dX4_greatestOf_20 hl rfl (by decide) rfl (fun ls hl => ?_)
        refine lv_goto (tgt := 6) hx hb dX4_greatestOf_23 (by decide) ?_
        exact ih_3 (i + 1) (if vv < h (i + 1) then h (i + 1) else vv)  (by first | omega | assumption | rfl) (by rw [hv]; rfl) (by omega) ls (lv_sub hl [0, 1, 2] rfl)
  exact key_1 ((20 - 0) + 1) 0 (h 0)  (by first | rfl | omega | assumption) (rfl) (Nat.lt_succ_self _) ls (lv_sub hl [0, 1, 2] rfl)
set_option maxHeartbeats 4000000 in
set_option maxRecDepth 100000 in
theorem c_X4_leastOf (l : Launch) (g : kG) (y : Nat) (h : Nat → Int32) : PI l yX4_leastOf cX4_leastOf 3 (some .int) (rr 1 21) [.ref y] ((va_P g.1 kCl [cI g y 21 h])) g (s_mi h 20) := by
  refine kOf (by decide) (Nat.le_of_ble_eq_true rfl) (fun p e s m below meth c ls hC hr hlk hin hK hP hl => ?_)
  have hx := hC.1
  have hb := hC.2.1
  have hml := hC.2.2.1
  have hown := hC.2.2.2.1
  have hts := hC.2.2.2.2
  have hl : lv_has ls 3 [(0, .ref y)] := hl
  refine lv_aload_n hx hb dX4_leastOf_0 rfl (lvG hl rfl) ?_
  refine lv_iconst (v := nI 0) hx hb dX4_leastOf_1 (by decide) ?_
  refine k_ald (k := 0) hC hK hP 0 rfl (by omega) (by decide) dX4_leastOf_2 ?_
  refine lv_istore_n (lv' := [(1, .int (h 0)), (0, .ref y)]) hx hb dX4_leastOf_3 rfl hl (by decide) rfl (fun ls hl => ?_)
  refine lv_iconst (v := nI 1) hx hb dX4_leastOf_4 (by decide) ?_
  refine lv_istore_n (lv' := [(2, .int (nI 1)), (1, .int (h 0)), (0, .ref y)]) hx hb dX4_leastOf_5 rfl hl (by decide) rfl (fun ls hl => ?_)
  have key_1 : ∀ (k_2 : Nat) (i : Nat) (vv : Int32)  (hi : i ≤ 20) (hv : vv = s_mi h i) (hk_k_2 : 20 - i < k_2) (ls : Array Slot) (hl : lv_has ls 3 [(2, .int (nI (i + 1))), (1, .int (vv)), (0, .ref y)]), W p l e (rr 1 21) s m [.ref y].toArray below meth c s.heap [] 0 0 (MQ below (vp_Si (fun r => r = s_mi h 20)) [.ref y].toArray s 0 0 (fun _ => False)) (F0 m 6 ls ([])) := by
    intro k_2
    induction k_2 with
    | zero => intro i vv hi hv hk_k_2 ls hl; exact absurd hk_k_2 (Nat.not_lt_zero _)
    | succ k_2 ih_3 =>
      intro i vv hi hv hk_k_2 ls hl
      refine lv_iload_n hx hb dX4_leastOf_6 rfl (lvG hl rfl) ?_
      refine lv_bipush (v := nI 21) hx hb dX4_leastOf_7 (by decide) ?_
      refine n_icmp_ge (tgt := 26) hC dX4_leastOf_9 (by omega) (by omega) (by decide) (fun zc9 => ?_) (fun zc9 => ?_)
      · refine lv_iload_n hx hb dX4_leastOf_26 rfl (lvG hl rfl) ?_
        exact k_iret hC hr hlk dX4_leastOf_27 (by rw [hv, show i = 20 by omega])
      · refine lv_iload_n hx hb dX4_leastOf_12 rfl (lvG hl rfl) ?_
        refine lv_aload_n hx hb dX4_leastOf_13 rfl (lvG hl rfl) ?_
        refine lv_iload_n hx hb dX4_leastOf_14 rfl (lvG hl rfl) ?_
        refine k_ald (k := i + 1) hC hK hP 0 rfl (by omega) (by decide) dX4_leastOf_15 ?_
        refine va_mmin hx hb (hml.trans hl.1.symm) hown (hts _ w_390) (hts _ w_391) (hts _ w_31) (hts _ w_392) (Nat.le_of_ble_eq_true rfl) (Nat.le_of_ble_eq_true rfl) (Nat.le_of_ble_eq_true rfl) (Nat.le_of_ble_eq_true rfl) dX4_leastOf_16 ?_
        refine lv_istore_n (lv' := [(1, .int (if h (i + 1) < vv then h (i + 1) else vv)), (2, .int (nI (i + 1))), (0, .ref y)]) hx hb dX4_leastOf_19 rfl hl (by decide) rfl (fun ls hl => ?_)
        refine n_iinc (lv' := [(2, .int (nI (i + 1 + 1))), (1, .int (if h (i + 1) < vv then h (i + 1) else vv)), (0, .ref y)]) hC dX4_leastOf_20 hl rfl (by decide) rfl (fun ls hl => ?_)
        refine lv_goto (tgt := 6) hx hb dX4_leastOf_23 (by decide) ?_
        exact ih_3 (i + 1) (if h (i + 1) < vv then h (i + 1) else vv)  (by first | omega | assumption | rfl) (by rw [hv]; rfl) (by omega) ls (lv_sub hl [0, 1, 2] rfl)
  exact key_1 ((20 - 0) + 1) 0 (h 0)  (by first | rfl | omega | assumption) (rfl) (Nat.lt_succ_self _) ls (lv_sub hl [0, 1, 2] rfl)
