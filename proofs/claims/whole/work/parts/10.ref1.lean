def s_quo (x y : Int64) : Int64 := x / y - (if x - x / y * y < lN 0 then lN 1 else lN 0)
def s_size (v : Int32) : Int32 := if v < nI 0 then -v else v
def s_fl (f : Nat → Int32) (b : Nat) (h : Nat → Int32) (k : Nat) : Nat → Int32 := fun j => if b ≤ j ∧ j < b + k then h (j - b) else f j
theorem s_fl_succ (f : Nat → Int32) (b : Nat) (h : Nat → Int32) (k : Nat) : upd (s_fl f b h k) (b + k) (h k) = s_fl f b h (k + 1) := by
  funext j
  unfold upd s_fl
  by_cases e : j = b + k
  · subst e; rw [if_pos rfl, if_pos ⟨by omega, by omega⟩, Nat.add_sub_cancel_left]
  · rw [if_neg e]
    by_cases e2 : b ≤ j ∧ j < b + k
    · rw [if_pos e2, if_pos ⟨e2.1, by omega⟩]
    · rw [if_neg e2, if_neg (fun q => e2 ⟨q.1, by omega⟩)]
theorem s_fl_out (f : Nat → Int32) (b : Nat) (h : Nat → Int32) (k j : Nat) (hj : j < b ∨ b + k ≤ j) : s_fl f b h k j = f j := if_neg (by omega)
theorem s_fl_in (f : Nat → Int32) (b : Nat) (h : Nat → Int32) (k i : Nat) (hi : i < k) : s_fl f b h k (b + i) = h i := by unfold s_fl; rw [if_pos ⟨by omega, by omega⟩, Nat.add_sub_cancel_left]
theorem s_fl_0 (f : Nat → Int32) (b : Nat) (h : Nat → Int32) : s_fl f b h 0 = f := by funext j; exact if_neg (by omega)
theorem upd_at (f : Nat → Int32) (k : Nat) (x : Int32) : upd f k x k = x := if_pos rfl
theorem upd_ne (f : Nat → Int32) (k : Nat) (x : Int32) (j : Nat) (h : j ≠ k) : upd f k x j = f j := if_neg h
theorem in_nat {x : Int32} {n : Nat} (hn : n < 2 ^ 31) (h : nI 0 ≤ x ∧ x ≤ nI n) : ∃ j : Nat, j ≤ n ∧ x = nI j :=
  nI_of2 (M := nI n) (nI_toInt hn) (Int32.not_lt.mpr h.1) h.2
/-- a block of 502 copied -/
abbrev s_cpy (f : Nat → Int32) (a b k : Nat) : Nat → Int32 := s_fl f b (fun i => f (a + i)) k
def s_rec (f : Nat → Int32) (n : Nat) : Nat → Int32 := if n = 4 then s_cpy (s_cpy (s_cpy (s_cpy f 1004 502 502) 1506 1004 502) 2008 1506 502) 0 2008 502 else s_cpy f 0 (502 + 502 * n) 502
def s_recn (n : Nat) : Nat := if n = 4 then 4 else n + 1
abbrev cINV : Int32 := -2000000001
abbrev cILL : Int32 := -2000000002
abbrev cCAP : Int32 := -2000000003
abbrev cNON : Int32 := -2000000004
set_option maxHeartbeats 4000000 in
set_option maxRecDepth 100000 in
theorem c_X5_in (l : Launch) (g : kG) (v : Int32) (lo : Int32) (hi : Int32) : PI l yX5_in cX5_in 3 (some .boolean) (rr 0 0) [.int (v), .int (lo), .int (hi)] ((fun _ => True)) g (if lo ≤ v ∧ v ≤ hi then 1 else 0) := by
  refine kOf (by decide) (Nat.le_of_ble_eq_true rfl) (fun p e s m below meth c ls hC hr hlk hin hK hP hl => ?_)
  have hx := hC.1
  have hb := hC.2.1
  have hml := hC.2.2.1
  have hown := hC.2.2.2.1
  have hts := hC.2.2.2.2
  have hl : lv_has ls 3 [(0, .int (v)), (1, .int (lo)), (2, .int (hi))] := hl
  refine lv_iload_n hx hb dX5_in_0 rfl (lvG hl rfl) ?_
  refine lv_iload_n hx hb dX5_in_1 rfl (lvG hl rfl) ?_
  refine lv_icmp_lt (tgt := 14) hx hb dX5_in_2 (by decide) (fun zc2 => ?_) (fun zc2 => ?_)
  · refine lv_iconst (v := nI 0) hx hb dX5_in_14 (by decide) ?_
    exact k_zret hC hr hlk dX5_in_15 k_nar0 (by first | rfl | grind [] | grind [nI])
  · refine lv_iload_n hx hb dX5_in_5 rfl (lvG hl rfl) ?_
    refine lv_iload_n hx hb dX5_in_6 rfl (lvG hl rfl) ?_
    refine lv_icmp_gt (tgt := 14) hx hb dX5_in_7 (by decide) (fun zc7 => ?_) (fun zc7 => ?_)
    · refine lv_iconst (v := nI 0) hx hb dX5_in_14 (by decide) ?_
      exact k_zret hC hr hlk dX5_in_15 k_nar0 (by first | rfl | grind [] | grind [nI])
    · refine lv_iconst (v := nI 1) hx hb dX5_in_10 (by decide) ?_
      refine lv_goto (tgt := 15) hx hb dX5_in_11 (by decide) ?_
      exact k_zret hC hr hlk dX5_in_15 k_nar1 (by first | rfl | grind [] | grind [nI])
theorem L_X5_X5_in : LnkS RX5 13 yX5_in cX5_in 3 (some .boolean) 3 := ⟨w_662, w_663, w_60, w_664, ⟨by decide +kernel, by decide +kernel⟩, by decide +kernel⟩
set_option maxHeartbeats 4000000 in
set_option maxRecDepth 100000 in
theorem c_X5_isEnd (l : Launch) (g : kG) (v : Int32) : PI l yX5_isEnd cX5_isEnd 1 (some .boolean) (rr 1 22) [.int (v)] ((fun _ => True)) g (if nI 0 ≤ v ∧ v ≤ nI 1 then 1 else 0) := by
  refine kOf (by decide) (Nat.le_of_ble_eq_true rfl) (fun p e s m below meth c ls hC hr hlk hin hK hP hl => ?_)
  have hx := hC.1
  have hb := hC.2.1
  have hml := hC.2.2.1
  have hown := hC.2.2.2.1
  have hts := hC.2.2.2.2
  have hl : lv_has ls 1 [(0, .int (v))] := hl
  refine lv_iload_n hx hb dX5_isEnd_0 rfl (lvG hl rfl) ?_
  refine lv_iconst (v := nI 0) hx hb dX5_isEnd_1 (by decide) ?_
  refine lv_iconst (v := nI 1) hx hb dX5_isEnd_2 (by decide) ?_
  refine k_callPI (k_goS (rest := []) hC hK (c_X5_in l g v (nI 0) (nI 1)) L_X5_X5_in (⟨⟨Nat.le_of_ble_eq_true rfl, Nat.le_of_ble_eq_true rfl⟩, ⟨rfl, rfl⟩, ⟨Nat.le_of_ble_eq_true rfl, Nat.le_of_ble_eq_true rfl⟩⟩) (trivial) rfl hl.1 rfl (Nat.le_of_ble_eq_true rfl) dX5_isEnd_3) ?_
  exact k_zret hC hr hlk dX5_isEnd_6 k_narb (by first | rfl | grind [] | grind [nI])
set_option maxHeartbeats 4000000 in
set_option maxRecDepth 100000 in
theorem c_X5_quotient (l : Launch) (g : kG) (x : Int64) (y : Int64) (hy : ¬ y = 0) : PL l yX5_quotient cX5_quotient 4 (some .long) (rr 0 0) [.long (x), .long (y)] ((fun _ => True)) g (s_quo x y) := by
  refine kOf (by decide) (Nat.le_of_ble_eq_true rfl) (fun p e s m below meth c ls hC hr hlk hin hK hP hl => ?_)
  have hx := hC.1
  have hb := hC.2.1
  have hml := hC.2.2.1
  have hown := hC.2.2.2.1
  have hts := hC.2.2.2.2
  have hl : lv_has ls 4 [(0, .long (x)), (2, .long (y))] := hl
  refine lv_lload_n hx hb dX5_quotient_0 rfl (lvG hl rfl) ?_
  refine lv_lload_n hx hb dX5_quotient_1 rfl (lvG hl rfl) ?_
  refine lv_ldiv hx hb dX5_quotient_2 (by assumption) ?_
  refine lv_lload_n hx hb dX5_quotient_3 rfl (lvG hl rfl) ?_
  refine lv_lload_n hx hb dX5_quotient_4 rfl (lvG hl rfl) ?_
  refine lv_lrem hx hb dX5_quotient_5 (by assumption) ?_
  refine lv_lconst (v := lN 0) hx hb dX5_quotient_6 (by decide) ?_
  refine j_lge (tgt := 15) hC dX5_quotient_7 dX5_quotient_8 (by decide) (fun zc7 => ?_) (fun zc7 => ?_)
  · refine lv_lconst (v := lN 0) hx hb dX5_quotient_15 (by decide) ?_
    refine lv_lsub hx hb dX5_quotient_16 ?_
    exact k_lret hC hr hlk dX5_quotient_17 (by first | rfl | grind [s_quo] | grind [nI, s_quo])
  · refine lv_lconst (v := lN 1) hx hb dX5_quotient_11 (by decide) ?_
    refine lv_goto (tgt := 16) hx hb dX5_quotient_12 (by decide) ?_
    refine lv_lsub hx hb dX5_quotient_16 ?_
    exact k_lret hC hr hlk dX5_quotient_17 (by first | rfl | grind [s_quo] | grind [nI, s_quo])
set_option maxHeartbeats 4000000 in
set_option maxRecDepth 100000 in
theorem c_X5_size (l : Launch) (g : kG) (v : Int32) : PI l yX5_size cX5_size 1 (some .int) (rr 0 0) [.int (v)] ((fun _ => True)) g (s_size v) := by
  refine kOf (by decide) (Nat.le_of_ble_eq_true rfl) (fun p e s m below meth c ls hC hr hlk hin hK hP hl => ?_)
  have hx := hC.1
  have hb := hC.2.1
  have hml := hC.2.2.1
  have hown := hC.2.2.2.1
  have hts := hC.2.2.2.2
  have hl : lv_has ls 1 [(0, .int (v))] := hl
  refine lv_iload_n hx hb dX5_size_0 rfl (lvG hl rfl) ?_
  refine z_if_ge (tgt := 9) hC dX5_size_1 (by decide) (fun zc1 => ?_) (fun zc1 => ?_)
  · refine lv_iload_n hx hb dX5_size_9 rfl (lvG hl rfl) ?_
    exact k_iret hC hr hlk dX5_size_10 (by first | rfl | grind [s_size] | grind [nI, s_size])
  · refine lv_iload_n hx hb dX5_size_4 rfl (lvG hl rfl) ?_
    refine lv_ineg hx hb dX5_size_5 ?_
    refine lv_goto (tgt := 10) hx hb dX5_size_6 (by decide) ?_
    exact k_iret hC hr hlk dX5_size_10 (by first | rfl | grind [s_size] | grind [nI, s_size])
set_option maxHeartbeats 4000000 in
set_option maxRecDepth 100000 in
theorem c_X5_historySize (l : Launch) (g : kG) (o : Nat) (q : Nat) (f : Nat → Int32) (n : Nat) : PI l yX5_historySize cX5_historySize 1 (some .int) (rr 0 0) [.ref o] ((RP g o q f n)) g (nI n) := by
  refine kOf (by decide) (Nat.le_of_ble_eq_true rfl) (fun p e s m below meth c ls hC hr hlk hin hK hP hl => ?_)
  have hx := hC.1
  have hb := hC.2.1
  have hml := hC.2.2.1
  have hown := hC.2.2.2.1
  have hts := hC.2.2.2.2
  have hl : lv_has ls 1 [(0, .ref o)] := hl
  refine lv_aload_n hx hb dX5_historySize_0 rfl (lvG hl rfl) ?_
  refine r_states hC hK hP dX5_historySize_1 ?_
  exact k_iret hC hr hlk dX5_historySize_4 (by first | rfl | grind [] | grind [nI])
set_option maxHeartbeats 4000000 in
set_option maxRecDepth 100000 in
theorem c_X5_cardCount (l : Launch) (g : kG) (o : Nat) (q : Nat) (f : Nat → Int32) (n : Nat) : PI l yX5_cardCount cX5_cardCount 1 (some .int) (rr 0 0) [.ref o] ((RP g o q f n)) g (f 61) := by
  refine kOf (by decide) (Nat.le_of_ble_eq_true rfl) (fun p e s m below meth c ls hC hr hlk hin hK hP hl => ?_)
  have hx := hC.1
  have hb := hC.2.1
  have hml := hC.2.2.1
  have hown := hC.2.2.2.1
  have hts := hC.2.2.2.2
  have hl : lv_has ls 1 [(0, .ref o)] := hl
  refine lv_aload_n hx hb dX5_cardCount_0 rfl (lvG hl rfl) ?_
  refine r_row hC hK hP dX5_cardCount_1 ?_
  refine lv_bipush (v := nI 61) hx hb dX5_cardCount_4 (by decide) ?_
  refine r_ald (k := 61) hC hK hP (by omega) dX5_cardCount_6 ?_
  exact k_iret hC hr hlk dX5_cardCount_7 (by first | rfl | grind [] | grind [nI])
set_option maxHeartbeats 4000000 in
set_option maxRecDepth 100000 in
theorem c_X5_volume (l : Launch) (g : kG) (o : Nat) (q : Nat) (f : Nat → Int32) (n : Nat) (a : Int32) : PI l yX5_volume cX5_volume 2 (some .int) (rr 0 0) [.ref o, .int (a)] ((RP g o q f n)) g (f 0 + a) := by
  refine kOf (by decide) (Nat.le_of_ble_eq_true rfl) (fun p e s m below meth c ls hC hr hlk hin hK hP hl => ?_)
  have hx := hC.1
  have hb := hC.2.1
  have hml := hC.2.2.1
  have hown := hC.2.2.2.1
  have hts := hC.2.2.2.2
  have hl : lv_has ls 2 [(0, .ref o), (1, .int (a))] := hl
  refine lv_aload_n hx hb dX5_volume_0 rfl (lvG hl rfl) ?_
  refine r_row hC hK hP dX5_volume_1 ?_
  refine lv_iconst (v := nI 0) hx hb dX5_volume_4 (by decide) ?_
  refine r_ald (k := 0) hC hK hP (by omega) dX5_volume_5 ?_
  refine lv_iload_n hx hb dX5_volume_6 rfl (lvG hl rfl) ?_
  refine lv_iadd hx hb dX5_volume_7 ?_
  exact k_iret hC hr hlk dX5_volume_8 (by first | rfl | grind [] | grind [nI])
set_option maxHeartbeats 4000000 in
set_option maxRecDepth 100000 in
theorem c_X5_endAt (l : Launch) (g : kG) (a : Nat) : PI l yX5_endAt cX5_endAt 1 (some .int) (rr 0 0) [.int (nI a)] ((fun _ => True)) g (nI (62 + 44 * a)) := by
  refine kOf (by decide) (Nat.le_of_ble_eq_true rfl) (fun p e s m below meth c ls hC hr hlk hin hK hP hl => ?_)
  have hx := hC.1
  have hb := hC.2.1
  have hml := hC.2.2.1
  have hown := hC.2.2.2.1
  have hts := hC.2.2.2.2
  have hl : lv_has ls 1 [(0, .int (nI a))] := hl
  refine lv_bipush (v := nI 62) hx hb dX5_endAt_0 (by decide) ?_
  refine lv_bipush (v := nI 44) hx hb dX5_endAt_2 (by decide) ?_
  refine lv_iload_n hx hb dX5_endAt_4 rfl (lvG hl rfl) ?_
  refine n_imul hC dX5_endAt_5 ?_
  refine n_iadd hC dX5_endAt_6 ?_
  exact k_iret hC hr hlk dX5_endAt_7 (by first | rfl | grind [] | grind [nI])
set_option maxHeartbeats 4000000 in
set_option maxRecDepth 100000 in
theorem c_X5_at (l : Launch) (g : kG) (a : Nat) : PI l yX5_at cX5_at 1 (some .int) (rr 0 0) [.int (nI a)] ((fun _ => True)) g (nI (62 + 44 * a + 2)) := by
  refine kOf (by decide) (Nat.le_of_ble_eq_true rfl) (fun p e s m below meth c ls hC hr hlk hin hK hP hl => ?_)
  have hx := hC.1
  have hb := hC.2.1
  have hml := hC.2.2.1
  have hown := hC.2.2.2.1
  have hts := hC.2.2.2.2
  have hl : lv_has ls 1 [(0, .int (nI a))] := hl
  refine lv_bipush (v := nI 62) hx hb dX5_at_0 (by decide) ?_
  refine lv_bipush (v := nI 44) hx hb dX5_at_2 (by decide) ?_
  refine lv_iload_n hx hb dX5_at_4 rfl (lvG hl rfl) ?_
  refine n_imul hC dX5_at_5 ?_
  refine n_iadd hC dX5_at_6 ?_
  refine lv_iconst (v := nI 2) hx hb dX5_at_7 (by decide) ?_
  refine n_iadd hC dX5_at_8 ?_
  exact k_iret hC hr hlk dX5_at_9 (by first | rfl | grind [] | grind [nI])
set_option maxHeartbeats 4000000 in
set_option maxRecDepth 100000 in
theorem c_X5_valveOf (l : Launch) (g : kG) (o : Nat) (q : Nat) (f : Nat → Int32) (n : Nat) (en : Nat) (ev : Nat) (h : 8 + 4 * en + ev < 2552) : PI l yX5_valveOf cX5_valveOf 3 (some .int) (rr 0 0) [.ref o, .int (nI en), .int (nI ev)] ((RP g o q f n)) g (f (8 + 4 * en + ev)) := by
  refine kOf (by decide) (Nat.le_of_ble_eq_true rfl) (fun p e s m below meth c ls hC hr hlk hin hK hP hl => ?_)
  have hx := hC.1
  have hb := hC.2.1
  have hml := hC.2.2.1
  have hown := hC.2.2.2.1
  have hts := hC.2.2.2.2
  have hl : lv_has ls 3 [(0, .ref o), (1, .int (nI en)), (2, .int (nI ev))] := hl
  refine lv_aload_n hx hb dX5_valveOf_0 rfl (lvG hl rfl) ?_
  refine r_row hC hK hP dX5_valveOf_1 ?_
  refine lv_bipush (v := nI 8) hx hb dX5_valveOf_4 (by decide) ?_
  refine lv_iconst (v := nI 4) hx hb dX5_valveOf_6 (by decide) ?_
  refine lv_iload_n hx hb dX5_valveOf_7 rfl (lvG hl rfl) ?_
  refine n_imul hC dX5_valveOf_8 ?_
  refine n_iadd hC dX5_valveOf_9 ?_
  refine lv_iload_n hx hb dX5_valveOf_10 rfl (lvG hl rfl) ?_
  refine n_iadd hC dX5_valveOf_11 ?_
  refine r_ald (k := 8 + (4 * en) + ev) hC hK hP (by omega) dX5_valveOf_12 ?_
  exact k_iret hC hr hlk dX5_valveOf_13 (by first | rfl | grind [] | grind [nI])
def s_df (p : Nat → Int32) (k : Nat) : Int32 := p k - p (21 + k)
set_option maxHeartbeats 4000000 in
set_option maxRecDepth 100000 in
theorem c_X5_difference (l : Launch) (g : kG) (o : Nat) (q : Nat) (f : Nat → Int32) (n : Nat) (a : Nat) (s0 : Nat) (h : a + 21 + s0 < 2552) : PI l yX5_difference cX5_difference 3 (some .int) (rr 0 0) [.ref o, .int (nI a), .int (nI s0)] ((RP g o q f n)) g (s_df (fun k => f (a + k)) s0) := by
  refine kOf (by decide) (Nat.le_of_ble_eq_true rfl) (fun p e s m below meth c ls hC hr hlk hin hK hP hl => ?_)
  have hx := hC.1
  have hb := hC.2.1
  have hml := hC.2.2.1
  have hown := hC.2.2.2.1
  have hts := hC.2.2.2.2
  have hl : lv_has ls 3 [(0, .ref o), (1, .int (nI a)), (2, .int (nI s0))] := hl
  refine lv_aload_n hx hb dX5_difference_0 rfl (lvG hl rfl) ?_
  refine r_row hC hK hP dX5_difference_1 ?_
  refine lv_iload_n hx hb dX5_difference_4 rfl (lvG hl rfl) ?_
  refine lv_iload_n hx hb dX5_difference_5 rfl (lvG hl rfl) ?_
  refine n_iadd hC dX5_difference_6 ?_
  refine r_ald (k := a + s0) hC hK hP (by omega) dX5_difference_7 ?_
  refine lv_aload_n hx hb dX5_difference_8 rfl (lvG hl rfl) ?_
  refine r_row hC hK hP dX5_difference_9 ?_
  refine lv_iload_n hx hb dX5_difference_12 rfl (lvG hl rfl) ?_
  refine lv_bipush (v := nI 21) hx hb dX5_difference_13 (by decide) ?_
  refine n_iadd hC dX5_difference_15 ?_
  refine lv_iload_n hx hb dX5_difference_16 rfl (lvG hl rfl) ?_
  refine n_iadd hC dX5_difference_17 ?_
  refine r_ald (k := a + 21 + s0) hC hK hP (by omega) dX5_difference_18 ?_
  refine lv_isub hx hb dX5_difference_19 ?_
  exact k_iret hC hr hlk dX5_difference_20 (by unfold s_df; rw [Nat.add_assoc a 21])
def s_ar (p : Nat → Int32) : Nat → Int32
  | 0 => nI 0
  | k + 1 => s_ar p k + (s_df p k + s_df p (k + 1))
theorem L_X5_X5_difference : LnkV RX5 79 yX5_difference cX5_difference 3 (some .int) 2 := ⟨w_792, w_794, w_36, w_60, w_795, ⟨by decide +kernel, by decide +kernel⟩, by decide +kernel⟩
set_option maxHeartbeats 4000000 in
set_option maxRecDepth 100000 in
theorem c_X5_areaAt (l : Launch) (g : kG) (o : Nat) (q : Nat) (f : Nat → Int32) (n : Nat) (a : Nat) (h : a + 42 ≤ 2552) : PI l yX5_areaAt cX5_areaAt 4 (some .int) (rr 1 22) [.ref o, .int (nI a)] ((RP g o q f n)) g (s_ar (fun k => f (a + k)) 20) := by
  refine kOf (by decide) (Nat.le_of_ble_eq_true rfl) (fun p e s m below meth c ls hC hr hlk hin hK hP hl => ?_)
  have hx := hC.1
  have hb := hC.2.1
  have hml := hC.2.2.1
  have hown := hC.2.2.2.1
  have hts := hC.2.2.2.2
  have hl : lv_has ls 4 [(0, .ref o), (1, .int (nI a))] := hl
  refine lv_iconst (v := nI 0) hx hb dX5_areaAt_0 (by decide) ?_
  refine lv_istore_n (lv' := [(2, .int (nI 0)), (0, .ref o), (1, .int (nI a))]) hx hb dX5_areaAt_1 rfl hl (by decide) rfl (fun ls hl => ?_)
  refine lv_iconst (v := nI 0) hx hb dX5_areaAt_2 (by decide) ?_
  refine lv_istore_n (lv' := [(3, .int (nI 0)), (2, .int (nI 0)), (0, .ref o), (1, .int (nI a))]) hx hb dX5_areaAt_3 rfl hl (by decide) rfl (fun ls hl => ?_)
  have key_1 : ∀ (k_2 : Nat) (i : Nat) (sm : Int32)  (hi : i ≤ 20) (hs : sm = s_ar (fun k => f (a + k)) i) (hk_k_2 : 20 - i < k_2) (ls : Array Slot) (hl : lv_has ls 4 [(3, .int (nI i)), (2, .int (sm)), (0, .ref o), (1, .int (nI a))]), W p l e (rr 1 22) s m [.ref o, .int (nI a)].toArray below meth c s.heap [] 0 0 (MQ below (vp_Si (fun r => r = s_ar (fun k => f (a + k)) 20)) [.ref o, .int (nI a)].toArray s 0 0 (fun _ => False)) (F0 m 4 ls ([])) := by
    intro k_2
    induction k_2 with
    | zero => intro i sm hi hs hk_k_2 ls hl; exact absurd hk_k_2 (Nat.not_lt_zero _)
    | succ k_2 ih_3 =>
      intro i sm hi hs hk_k_2 ls hl
      refine lv_iload_n hx hb dX5_areaAt_4 rfl (lvG hl rfl) ?_
      refine lv_bipush (v := nI 20) hx hb dX5_areaAt_5 (by decide) ?_
      refine n_icmp_ge (tgt := 34) hC dX5_areaAt_7 (by omega) (by omega) (by decide) (fun zc7 => ?_) (fun zc7 => ?_)
      · refine lv_iload_n hx hb dX5_areaAt_34 rfl (lvG hl rfl) ?_
        exact k_iret hC hr hlk dX5_areaAt_35 (by rw [hs, show i = 20 by omega])
      · refine lv_iload_n hx hb dX5_areaAt_10 rfl (lvG hl rfl) ?_
        refine lv_aload_n hx hb dX5_areaAt_11 rfl (lvG hl rfl) ?_
        refine lv_iload_n hx hb dX5_areaAt_12 rfl (lvG hl rfl) ?_
        refine lv_iload_n hx hb dX5_areaAt_13 rfl (lvG hl rfl) ?_
        refine k_callPI (k_goV (rest := [.int (sm)]) hC hK (c_X5_difference l g o q f n a i (by first | assumption | omega)) L_X5_X5_difference (⟨⟨Nat.le_of_ble_eq_true rfl, Nat.le_of_ble_eq_true rfl⟩, ⟨rfl, rfl⟩, ⟨Nat.le_of_ble_eq_true rfl, Nat.le_of_ble_eq_true rfl⟩⟩) (hP.recv hK) (hP) rfl hl.1 rfl (Nat.le_of_ble_eq_true rfl) dX5_areaAt_14) ?_
        refine lv_aload_n hx hb dX5_areaAt_17 rfl (lvG hl rfl) ?_
        refine lv_iload_n hx hb dX5_areaAt_18 rfl (lvG hl rfl) ?_
        refine lv_iload_n hx hb dX5_areaAt_19 rfl (lvG hl rfl) ?_
        refine lv_iconst (v := nI 1) hx hb dX5_areaAt_20 (by decide) ?_
        refine n_iadd hC dX5_areaAt_21 ?_
        refine k_callPI (k_goV (rest := [.int (s_df (fun k => f (a + k)) i), .int (sm)]) hC hK (c_X5_difference l g o q f n a (i + 1) (by first | assumption | omega)) L_X5_X5_difference (⟨⟨Nat.le_of_ble_eq_true rfl, Nat.le_of_ble_eq_true rfl⟩, ⟨rfl, rfl⟩, ⟨Nat.le_of_ble_eq_true rfl, Nat.le_of_ble_eq_true rfl⟩⟩) (hP.recv hK) (hP) rfl hl.1 rfl (Nat.le_of_ble_eq_true rfl) dX5_areaAt_22) ?_
        refine lv_iadd hx hb dX5_areaAt_25 ?_
        refine lv_iadd hx hb dX5_areaAt_26 ?_
        refine lv_istore_n (lv' := [(2, .int (sm + ((s_df (fun k => f (a + k)) i) + (s_df (fun k => f (a + k)) (i + 1))))), (3, .int (nI i)), (0, .ref o), (1, .int (nI a))]) hx hb dX5_areaAt_27 rfl hl (by decide) rfl (fun ls hl => ?_)
        refine n_iinc (lv' := [(3, .int (nI (i + 1))), (2, .int (sm + ((s_df (fun k => f (a + k)) i) + (s_df (fun k => f (a + k)) (i + 1))))), (0, .ref o), (1, .int (nI a))]) hC dX5_areaAt_28 hl rfl (by decide) rfl (fun ls hl => ?_)
        refine lv_goto (tgt := 4) hx hb dX5_areaAt_31 (by decide) ?_
        exact ih_3 (i + 1) (sm + ((s_df (fun k => f (a + k)) i) + (s_df (fun k => f (a + k)) (i + 1))))  (by first | omega | assumption | rfl) (by rw [hs]; rfl) (by omega) ls (lv_sub hl [0, 1, 2, 3] rfl)
  exact key_1 ((20 - 0) + 1) 0 (nI 0)  (by first | rfl | omega | assumption) (by first | rfl | omega | assumption) (Nat.lt_succ_self _) ls (lv_sub hl [0, 1, 2, 3] rfl)
set_option maxHeartbeats 4000000 in
set_option maxRecDepth 100000 in
theorem c_X5_copy (l : Launch) (g : kG) (o : Nat) (q : Nat) (f : Nat → Int32) (n : Nat) (a : Nat) (b : Nat) (h1 : a + 502 ≤ 2552) (h2 : b + 502 ≤ 2552) (h3 : a + 502 ≤ b ∨ b + 502 ≤ a) : MV l yX5_copy cX5_copy 4 none (rr 0 0) [.ref o, .int (nI a), .int (nI b)] ((RP g o q f n)) g 0 0 (RA o q) (fun H1 => RP g o q (s_cpy f a b 502) (n) H1) := by
  refine kOf (by decide) (Nat.le_of_ble_eq_true rfl) (fun p e s m below meth c ls hC hr hlk hin hK hP hl => ?_)
  have hx := hC.1
  have hb := hC.2.1
  have hml := hC.2.2.1
  have hown := hC.2.2.2.1
  have hts := hC.2.2.2.2
  have hl : lv_has ls 4 [(0, .ref o), (1, .int (nI a)), (2, .int (nI b))] := hl
  have hS : va_S (RA o q) s.heap s.heap [] := va_S.rf
  refine lv_iconst (v := nI 0) hx hb dX5_copy_0 (by decide) ?_
  refine lv_istore_n (lv' := [(3, .int (nI 0)), (0, .ref o), (1, .int (nI a)), (2, .int (nI b))]) hx hb dX5_copy_1 rfl hl (by decide) rfl (fun ls hl => ?_)
  have key_1 : ∀ (k_2 : Nat) (i : Nat) (F : Nat → Int32) (H_l2 : Heap) (locs_l2 : List Loc) (hP_l2 : RP g o q F n H_l2) (hS_l2 : va_S (RA o q) s.heap H_l2 locs_l2) (hi : i ≤ 502) (hF : F = s_cpy f a b i) (hk_k_2 : 502 - i < k_2) (ls : Array Slot) (hl : lv_has ls 4 [(3, .int (nI i)), (0, .ref o), (1, .int (nI a)), (2, .int (nI b))]), W p l e (rr 0 0) s m [.ref o, .int (nI a), .int (nI b)].toArray below meth c H_l2 locs_l2 0 0 (MQ below (qV (RA o q) (fun H1 => RP g o q (s_cpy f a b 502) (n) H1)) [.ref o, .int (nI a), .int (nI b)].toArray s 0 0 (RA o q)) (F0 m 2 ls ([])) := by
    intro k_2
    induction k_2 with
    | zero => intro i F H_l2 locs_l2 hP_l2 hS_l2 hi hF hk_k_2 ls hl; exact absurd hk_k_2 (Nat.not_lt_zero _)
    | succ k_2 ih_3 =>
      intro i F H_l2 locs_l2 hP_l2 hS_l2 hi hF hk_k_2 ls hl
      refine lv_iload_n hx hb dX5_copy_2 rfl (lvG hl rfl) ?_
      refine lv_sipush (v := nI 502) hx hb dX5_copy_3 (by decide) ?_
      refine n_icmp_ge (tgt := 31) hC dX5_copy_6 (by omega) (by omega) (by decide) (fun zc6 => ?_) (fun zc6 => ?_)
      · exact k_vretM hC hr hlk hS_l2 dX5_copy_31 (by rw [hF, show i = 502 by omega] at hP_l2; exact hP_l2)
      · refine lv_aload_n hx hb dX5_copy_9 rfl (lvG hl rfl) ?_
        refine r_row hC hK hP_l2 dX5_copy_10 ?_
        refine lv_iload_n hx hb dX5_copy_13 rfl (lvG hl rfl) ?_
        refine lv_iload_n hx hb dX5_copy_14 rfl (lvG hl rfl) ?_
        refine n_iadd hC dX5_copy_15 ?_
        refine lv_aload_n hx hb dX5_copy_16 rfl (lvG hl rfl) ?_
        refine r_row hC hK hP_l2 dX5_copy_17 ?_
        refine lv_iload_n hx hb dX5_copy_20 rfl (lvG hl rfl) ?_
        refine lv_iload_n hx hb dX5_copy_21 rfl (lvG hl rfl) ?_
        refine n_iadd hC dX5_copy_22 ?_
        refine r_ald (k := a + i) hC hK hP_l2 (by omega) dX5_copy_23 ?_
        refine r_ast (k := b + i) hC hK hP_l2 hS_l2 (by omega) dX5_copy_24 (fun H_4 locs_5 hP_6 hS_7 => ?_)
        refine n_iinc (lv' := [(3, .int (nI (i + 1))), (0, .ref o), (1, .int (nI a)), (2, .int (nI b))]) hC dX5_copy_25 hl rfl (by decide) rfl (fun ls hl => ?_)
        refine lv_goto (tgt := 2) hx hb dX5_copy_28 (by decide) ?_
        exact ih_3 (i + 1) (upd F (b + i) (F (a + i))) _ _ hP_6 hS_7 (by first | omega | assumption | rfl) (by rw [hF, show s_cpy f a b i (a + i) = f (a + i) from s_fl_out _ _ _ _ _ (by omega)]; exact s_fl_succ f b (fun i => f (a + i)) i) (by omega) ls (lv_sub hl [0, 1, 2, 3] rfl)
  exact key_1 ((502 - 0) + 1) 0 f _ _ hP hS (by first | rfl | omega | assumption) ((s_fl_0 _ _ _).symm) (Nat.lt_succ_self _) ls (lv_sub hl [0, 1, 2, 3] rfl)
theorem L_X5_X5_copy : LnkV RX5 21 yX5_copy cX5_copy 4 none 2 := ⟨w_654, w_656, w_24, w_60, w_657, ⟨by decide +kernel, by decide +kernel⟩, by decide +kernel⟩
set_option maxHeartbeats 4000000 in
set_option maxRecDepth 100000 in
theorem c_X5_record (l : Launch) (g : kG) (o : Nat) (q : Nat) (f : Nat → Int32) (n : Nat) : MV l yX5_record cX5_record 2 none (rr 1 23) [.ref o] ((RP g o q f n)) g 0 0 (RA o q) (fun H1 => RP g o q (s_rec f n) (s_recn n) H1) := by
  refine kOf (by decide) (Nat.le_of_ble_eq_true rfl) (fun p e s m below meth c ls hC hr hlk hin hK hP hl => ?_)
  have hx := hC.1
  have hb := hC.2.1
  have hml := hC.2.2.1
  have hown := hC.2.2.2.1
  have hts := hC.2.2.2.2
  have hl : lv_has ls 2 [(0, .ref o)] := hl
  have hS : va_S (RA o q) s.heap s.heap [] := va_S.rf
  have hn4 := hP.2.1
  refine lv_aload_n hx hb dX5_record_0 rfl (lvG hl rfl) ?_
  refine r_states hC hK hP dX5_record_1 ?_
  refine lv_iconst (v := nI 4) hx hb dX5_record_4 (by decide) ?_
  refine n_icmp_ne (tgt := 49) hC dX5_record_5 (by omega) (by omega) (by decide) (fun zc5 => ?_) (fun zc5 => ?_)
  · refine lv_aload_n hx hb dX5_record_49 rfl (lvG hl rfl) ?_
    refine lv_iconst (v := nI 0) hx hb dX5_record_50 (by decide) ?_
    refine lv_sipush (v := nI 502) hx hb dX5_record_51 (by decide) ?_
    refine lv_sipush (v := nI 502) hx hb dX5_record_54 (by decide) ?_
    refine lv_aload_n hx hb dX5_record_57 rfl (lvG hl rfl) ?_
    refine r_states hC hK hP dX5_record_58 ?_
    refine n_imul hC dX5_record_61 ?_
    refine n_iadd hC dX5_record_62 ?_
    refine k_callMV0 (k_goV (rest := []) hC hK (c_X5_copy l g o q f n 0 (502 + (502 * n)) (by first | assumption | omega) (by first | assumption | omega) (by first | assumption | omega)) L_X5_X5_copy (⟨⟨Nat.le_of_ble_eq_true rfl, Nat.le_of_ble_eq_true rfl⟩, ⟨rfl, rfl⟩, ⟨Nat.le_of_ble_eq_true rfl, Nat.le_of_ble_eq_true rfl⟩⟩) (hP.recv hK) (hP) rfl hl.1 rfl (Nat.le_of_ble_eq_true rfl) dX5_record_63) hS (fun _ h => h) (fun H_1 locs_2 hP_3 _ _ hS_4 => ?_)
    refine lv_aload_n hx hb dX5_record_66 rfl (lvG hl rfl) ?_
    refine lv_dup hx hb dX5_record_67 rfl ?_
    refine r_states hC hK hP_3 dX5_record_68 ?_
    refine lv_iconst (v := nI 1) hx hb dX5_record_71 (by decide) ?_
    refine n_iadd hC dX5_record_72 ?_
    refine r_putStates (n2 := n + 1) hC hK hP_3 hS_4 (by omega) dX5_record_73 (fun H_5 locs_6 hP_7 hS_8 => ?_)
    exact k_vretM hC hr hlk hS_8 dX5_record_76 (by unfold s_rec s_recn; first | (rw [if_pos rfl, if_pos rfl]; exact hP_7) | (rw [if_neg zc5, if_neg zc5]; exact hP_7))
  · subst zc5
    refine lv_iconst (v := nI 1) hx hb dX5_record_8 (by decide) ?_
    refine lv_istore_n (lv' := [(1, .int (nI 1)), (0, .ref o)]) hx hb dX5_record_9 rfl hl (by decide) rfl (fun ls hl => ?_)
    refine lv_iload_n hx hb dX5_record_10 rfl (lvG hl rfl) ?_
    refine lv_iconst (v := nI 4) hx hb dX5_record_11 (by decide) ?_
    refine n_icmp_ge (tgt := 39) hC dX5_record_12 (by decide) (by decide) (by decide) (fun c => absurd c (by decide)) (fun _ => ?_)
    refine lv_aload_n hx hb dX5_record_15 rfl (lvG hl rfl) ?_
    refine lv_sipush (v := nI 502) hx hb dX5_record_16 (by decide) ?_
    refine lv_sipush (v := nI 502) hx hb dX5_record_19 (by decide) ?_
    refine lv_iload_n hx hb dX5_record_22 rfl (lvG hl rfl) ?_
    refine n_imulz (z := 502) hC dX5_record_23 rfl ?_
    refine n_iaddz (z := 1004) hC dX5_record_24 rfl ?_
    refine lv_sipush (v := nI 502) hx hb dX5_record_25 (by decide) ?_
    refine lv_iload_n hx hb dX5_record_28 rfl (lvG hl rfl) ?_
    refine n_imulz (z := 502) hC dX5_record_29 rfl ?_
    refine k_callMV0 (k_goV (rest := []) hC hK (c_X5_copy l g o q f 4 1004 502 (by first | assumption | omega) (by first | assumption | omega) (by first | assumption | omega)) L_X5_X5_copy (⟨⟨Nat.le_of_ble_eq_true rfl, Nat.le_of_ble_eq_true rfl⟩, ⟨rfl, rfl⟩, ⟨Nat.le_of_ble_eq_true rfl, Nat.le_of_ble_eq_true rfl⟩⟩) (hP.recv hK) (hP) rfl hl.1 rfl (Nat.le_of_ble_eq_true rfl) dX5_record_30) hS (fun _ h => h) (fun H_9 locs_10 hP_11 _ _ hS_12 => ?_)
    refine n_iinc (lv' := [(1, .int (nI 2)), (0, .ref o)]) hC dX5_record_33 hl rfl (by decide) rfl (fun ls hl => ?_)
    refine lv_goto (tgt := 10) hx hb dX5_record_36 (by decide) ?_
    refine lv_iload_n hx hb dX5_record_10 rfl (lvG hl rfl) ?_
    refine lv_iconst (v := nI 4) hx hb dX5_record_11 (by decide) ?_
    refine n_icmp_ge (tgt := 39) hC dX5_record_12 (by decide) (by decide) (by decide) (fun c => absurd c (by decide)) (fun _ => ?_)
    refine lv_aload_n hx hb dX5_record_15 rfl (lvG hl rfl) ?_
    refine lv_sipush (v := nI 502) hx hb dX5_record_16 (by decide) ?_
    refine lv_sipush (v := nI 502) hx hb dX5_record_19 (by decide) ?_
    refine lv_iload_n hx hb dX5_record_22 rfl (lvG hl rfl) ?_
    refine n_imulz (z := 1004) hC dX5_record_23 rfl ?_
    refine n_iaddz (z := 1506) hC dX5_record_24 rfl ?_
    refine lv_sipush (v := nI 502) hx hb dX5_record_25 (by decide) ?_
    refine lv_iload_n hx hb dX5_record_28 rfl (lvG hl rfl) ?_
    refine n_imulz (z := 1004) hC dX5_record_29 rfl ?_
    refine k_callMV0 (k_goV (rest := []) hC hK (c_X5_copy l g o q (s_cpy f 1004 502 502) 4 1506 1004 (by first | assumption | omega) (by first | assumption | omega) (by first | assumption | omega)) L_X5_X5_copy (⟨⟨Nat.le_of_ble_eq_true rfl, Nat.le_of_ble_eq_true rfl⟩, ⟨rfl, rfl⟩, ⟨Nat.le_of_ble_eq_true rfl, Nat.le_of_ble_eq_true rfl⟩⟩) (hP_11.recv hK) (hP_11) rfl hl.1 rfl (Nat.le_of_ble_eq_true rfl) dX5_record_30) hS_12 (fun _ h => h) (fun H_13 locs_14 hP_15 _ _ hS_16 => ?_)
    refine n_iinc (lv' := [(1, .int (nI 3)), (0, .ref o)]) hC dX5_record_33 hl rfl (by decide) rfl (fun ls hl => ?_)
    refine lv_goto (tgt := 10) hx hb dX5_record_36 (by decide) ?_
    refine lv_iload_n hx hb dX5_record_10 rfl (lvG hl rfl) ?_
    refine lv_iconst (v := nI 4) hx hb dX5_record_11 (by decide) ?_
    refine n_icmp_ge (tgt := 39) hC dX5_record_12 (by decide) (by decide) (by decide) (fun c => absurd c (by decide)) (fun _ => ?_)
    refine lv_aload_n hx hb dX5_record_15 rfl (lvG hl rfl) ?_
    refine lv_sipush (v := nI 502) hx hb dX5_record_16 (by decide) ?_
    refine lv_sipush (v := nI 502) hx hb dX5_record_19 (by decide) ?_
    refine lv_iload_n hx hb dX5_record_22 rfl (lvG hl rfl) ?_
    refine n_imulz (z := 1506) hC dX5_record_23 rfl ?_
    refine n_iaddz (z := 2008) hC dX5_record_24 rfl ?_
    refine lv_sipush (v := nI 502) hx hb dX5_record_25 (by decide) ?_
    refine lv_iload_n hx hb dX5_record_28 rfl (lvG hl rfl) ?_
    refine n_imulz (z := 1506) hC dX5_record_29 rfl ?_
    refine k_callMV0 (k_goV (rest := []) hC hK (c_X5_copy l g o q (s_cpy (s_cpy f 1004 502 502) 1506 1004 502) 4 2008 1506 (by first | assumption | omega) (by first | assumption | omega) (by first | assumption | omega)) L_X5_X5_copy (⟨⟨Nat.le_of_ble_eq_true rfl, Nat.le_of_ble_eq_true rfl⟩, ⟨rfl, rfl⟩, ⟨Nat.le_of_ble_eq_true rfl, Nat.le_of_ble_eq_true rfl⟩⟩) (hP_15.recv hK) (hP_15) rfl hl.1 rfl (Nat.le_of_ble_eq_true rfl) dX5_record_30) hS_16 (fun _ h => h) (fun H_17 locs_18 hP_19 _ _ hS_20 => ?_)
    refine n_iinc (lv' := [(1, .int (nI 4)), (0, .ref o)]) hC dX5_record_33 hl rfl (by decide) rfl (fun ls hl => ?_)
    refine lv_goto (tgt := 10) hx hb dX5_record_36 (by decide) ?_
    refine lv_iload_n hx hb dX5_record_10 rfl (lvG hl rfl) ?_
    refine lv_iconst (v := nI 4) hx hb dX5_record_11 (by decide) ?_
    refine n_icmp_ge (tgt := 39) hC dX5_record_12 (by decide) (by decide) (by decide) (fun _ => ?_) (fun c => absurd c (by decide))
    refine lv_aload_n hx hb dX5_record_39 rfl (lvG hl rfl) ?_
    refine lv_dup hx hb dX5_record_40 rfl ?_
    refine r_states hC hK hP_19 dX5_record_41 ?_
    refine lv_iconst (v := nI 1) hx hb dX5_record_44 (by decide) ?_
    refine n_isubz (z := 3) hC dX5_record_45 (by decide) rfl ?_
    refine r_putStates (n2 := 3) hC hK hP_19 hS_20 (by decide) dX5_record_46 (fun H_21 locs_22 hP_23 hS_24 => ?_)
    refine lv_aload_n hx hb dX5_record_49 rfl (lvG hl rfl) ?_
    refine lv_iconst (v := nI 0) hx hb dX5_record_50 (by decide) ?_
    refine lv_sipush (v := nI 502) hx hb dX5_record_51 (by decide) ?_
    refine lv_sipush (v := nI 502) hx hb dX5_record_54 (by decide) ?_
    refine lv_aload_n hx hb dX5_record_57 rfl (lvG hl rfl) ?_
    refine r_states hC hK hP_23 dX5_record_58 ?_
    refine n_imulz (z := 1506) hC dX5_record_61 rfl ?_
    refine n_iaddz (z := 2008) hC dX5_record_62 rfl ?_
    refine k_callMV0 (k_goV (rest := []) hC hK (c_X5_copy l g o q (s_cpy (s_cpy (s_cpy f 1004 502 502) 1506 1004 502) 2008 1506 502) 3 0 2008 (by first | assumption | omega) (by first | assumption | omega) (by first | assumption | omega)) L_X5_X5_copy (⟨⟨Nat.le_of_ble_eq_true rfl, Nat.le_of_ble_eq_true rfl⟩, ⟨rfl, rfl⟩, ⟨Nat.le_of_ble_eq_true rfl, Nat.le_of_ble_eq_true rfl⟩⟩) (hP_23.recv hK) (hP_23) rfl hl.1 rfl (Nat.le_of_ble_eq_true rfl) dX5_record_63) hS_24 (fun _ h => h) (fun H_25 locs_26 hP_27 _ _ hS_28 => ?_)
    refine lv_aload_n hx hb dX5_record_66 rfl (lvG hl rfl) ?_
    refine lv_dup hx hb dX5_record_67 rfl ?_
    refine r_states hC hK hP_27 dX5_record_68 ?_
    refine lv_iconst (v := nI 1) hx hb dX5_record_71 (by decide) ?_
    refine n_iaddz (z := 4) hC dX5_record_72 rfl ?_
    refine r_putStates (n2 := 4) hC hK hP_27 hS_28 (by omega) dX5_record_73 (fun H_29 locs_30 hP_31 hS_32 => ?_)
    exact k_vretM hC hr hlk hS_32 dX5_record_76 (by unfold s_rec s_recn; first | (rw [if_pos rfl, if_pos rfl]; exact hP_31) | (rw [if_neg zc5, if_neg zc5]; exact hP_31))
def s_undf (f : Nat → Int32) (n : Nat) : Nat → Int32 := if n = 0 then f else s_cpy f (502 + 502 * (n - 1)) 0 502
def s_undr (n : Nat) : Int32 := if n = 0 then cILL else nI (n - 1)
set_option maxHeartbeats 4000000 in
set_option maxRecDepth 100000 in
theorem c_X5_undo (l : Launch) (g : kG) (o : Nat) (q : Nat) (f : Nat → Int32) (n : Nat) : MI l yX5_undo cX5_undo 1 (some .int) (rr 1 23) [.ref o] ((RP g o q f n)) g 0 0 (RA o q) (fun r H1 => r = s_undr n ∧ RP g o q (s_undf f n) (n - 1) H1) := by
  refine kOf (by decide) (Nat.le_of_ble_eq_true rfl) (fun p e s m below meth c ls hC hr hlk hin hK hP hl => ?_)
  have hx := hC.1
  have hb := hC.2.1
  have hml := hC.2.2.1
  have hown := hC.2.2.2.1
  have hts := hC.2.2.2.2
  have hl : lv_has ls 1 [(0, .ref o)] := hl
  have hS : va_S (RA o q) s.heap s.heap [] := va_S.rf
  have hn4 := hP.2.1
  refine lv_aload_n hx hb dX5_undo_0 rfl (lvG hl rfl) ?_
  refine r_states hC hK hP dX5_undo_1 ?_
  refine n_if_ne (tgt := 10) hC dX5_undo_4 (by omega) (by decide) (fun zc4 => ?_) (fun zc4 => ?_)
  · refine lv_aload_n hx hb dX5_undo_10 rfl (lvG hl rfl) ?_
    refine lv_dup hx hb dX5_undo_11 rfl ?_
    refine r_states hC hK hP dX5_undo_12 ?_
    refine lv_iconst (v := nI 1) hx hb dX5_undo_15 (by decide) ?_
    refine n_isub hC dX5_undo_16 (by omega) ?_
    refine r_putStates (n2 := n - 1) hC hK hP hS (by omega) dX5_undo_17 (fun H_1 locs_2 hP_3 hS_4 => ?_)
    refine lv_aload_n hx hb dX5_undo_20 rfl (lvG hl rfl) ?_
    refine lv_sipush (v := nI 502) hx hb dX5_undo_21 (by decide) ?_
    refine lv_sipush (v := nI 502) hx hb dX5_undo_24 (by decide) ?_
    refine lv_aload_n hx hb dX5_undo_27 rfl (lvG hl rfl) ?_
    refine r_states hC hK hP_3 dX5_undo_28 ?_
    refine n_imul hC dX5_undo_31 ?_
    refine n_iadd hC dX5_undo_32 ?_
    refine lv_iconst (v := nI 0) hx hb dX5_undo_33 (by decide) ?_
    refine k_callMV0 (k_goV (rest := []) hC hK (c_X5_copy l g o q f (n - 1) (502 + (502 * (n - 1))) 0 (by first | assumption | omega) (by first | assumption | omega) (by first | assumption | omega)) L_X5_X5_copy (⟨⟨Nat.le_of_ble_eq_true rfl, Nat.le_of_ble_eq_true rfl⟩, ⟨rfl, rfl⟩, ⟨Nat.le_of_ble_eq_true rfl, Nat.le_of_ble_eq_true rfl⟩⟩) (hP_3.recv hK) (hP_3) rfl hl.1 rfl (Nat.le_of_ble_eq_true rfl) dX5_undo_34) hS_4 (fun _ h => h) (fun H_5 locs_6 hP_7 _ _ hS_8 => ?_)
    refine lv_aload_n hx hb dX5_undo_37 rfl (lvG hl rfl) ?_
    refine r_states hC hK hP_7 dX5_undo_38 ?_
    exact k_iretM hC hr hlk hS_8 dX5_undo_41 (⟨by first | rfl | grind [s_undr, s_undf] | grind [nI, s_undr, s_undf], by first | exact hP_7 | grind [s_undr, s_undf]⟩)
  · refine lv_ldc (v := (-2000000002 : Int32)) hx hb hown (hts _ w_653) dX5_undo_7 ?_
    exact k_iretM hC hr hlk hS dX5_undo_9 (⟨by first | rfl | grind [s_undr, s_undf] | grind [nI, s_undr, s_undf], by first | exact hP | grind [s_undr, s_undf]⟩)
def s_putr (f : Nat → Int32) (n a : Nat) (P : Prop) [Decidable P] : Int32 := if P then s_rec f n a else cINV
def s_putf (f : Nat → Int32) (n a : Nat) (P : Prop) [Decidable P] (x : Int32) : Nat → Int32 := if P then upd (s_rec f n) a x else f
def s_putn (n : Nat) (P : Prop) [Decidable P] : Nat := if P then s_recn n else n
theorem L_X5_X5_record : LnkV RX5 27 yX5_record cX5_record 2 none 0 := ⟨w_670, w_672, w_26, w_60, w_673, ⟨by decide +kernel, by decide +kernel⟩, by decide +kernel⟩
set_option maxHeartbeats 4000000 in
set_option maxRecDepth 100000 in
theorem c_X5_put (l : Launch) (g : kG) (o : Nat) (q : Nat) (f : Nat → Int32) (n : Nat) (a : Nat) (P : Prop) (dP : Decidable P) (x : Int32) (h : a < 502) : MI l yX5_put cX5_put 5 (some .int) (rr 2 44) [.ref o, .int (nI a), .int (if P then 1 else 0), .int (x)] ((RP g o q f n)) g 0 0 (RA o q) (fun r H1 => r = s_putr f n a P ∧ RP g o q (s_putf f n a P x) (s_putn n P) H1) := by
  refine kOf (by decide) (Nat.le_of_ble_eq_true rfl) (fun p e s m below meth c ls hC hr hlk hin hK hP hl => ?_)
  have hx := hC.1
  have hb := hC.2.1
  have hml := hC.2.2.1
  have hown := hC.2.2.2.1
  have hts := hC.2.2.2.2
  have hl : lv_has ls 5 [(0, .ref o), (1, .int (nI a)), (2, .int (if P then 1 else 0)), (3, .int (x))] := hl
  have hS : va_S (RA o q) s.heap s.heap [] := va_S.rf
  refine lv_iload_n hx hb dX5_put_0 rfl (lvG hl rfl) ?_
  refine b_ifne (tgt := 7) hC dX5_put_1 (by decide) (fun zc1 => ?_) (fun zc1 => ?_)
  · refine lv_aload_n hx hb dX5_put_7 rfl (lvG hl rfl) ?_
    refine k_callMV0 (k_goV (rest := []) hC hK (c_X5_record l g o q f n) L_X5_X5_record (⟨⟨Nat.le_of_ble_eq_true rfl, Nat.le_of_ble_eq_true rfl⟩, ⟨rfl, rfl⟩, ⟨Nat.le_of_ble_eq_true rfl, Nat.le_of_ble_eq_true rfl⟩⟩) (hP.recv hK) (hP) rfl hl.1 rfl (Nat.le_of_ble_eq_true rfl) dX5_put_8) hS (fun _ h => h) (fun H_1 locs_2 hP_3 _ _ hS_4 => ?_)
    refine lv_aload_n hx hb dX5_put_11 rfl (lvG hl rfl) ?_
    refine r_row hC hK hP_3 dX5_put_12 ?_
    refine lv_iload_n hx hb dX5_put_15 rfl (lvG hl rfl) ?_
    refine r_ald (k := a) hC hK hP_3 (by omega) dX5_put_16 ?_
    refine lv_istore (lv' := [(4, .int ((s_rec f n) a)), (0, .ref o), (1, .int (nI a)), (2, .int (if P then 1 else 0)), (3, .int (x))]) hx hb dX5_put_17 hl (by decide) rfl (fun ls hl => ?_)
    refine lv_aload_n hx hb dX5_put_19 rfl (lvG hl rfl) ?_
    refine r_row hC hK hP_3 dX5_put_20 ?_
    refine lv_iload_n hx hb dX5_put_23 rfl (lvG hl rfl) ?_
    refine lv_iload_n hx hb dX5_put_24 rfl (lvG hl rfl) ?_
    refine r_ast (k := a) hC hK hP_3 hS_4 (by omega) dX5_put_25 (fun H_5 locs_6 hP_7 hS_8 => ?_)
    refine lv_iload hx hb dX5_put_26 (lvG hl rfl) ?_
    exact k_iretM hC hr hlk hS_8 dX5_put_28 (by unfold s_putr s_putf s_putn; first | (rw [if_pos zc1, if_pos zc1, if_pos zc1]; exact ⟨rfl, hP_7⟩) | (rw [if_neg zc1, if_neg zc1, if_neg zc1]; exact ⟨rfl, hP_7⟩))
  · refine lv_ldc (v := (-2000000001 : Int32)) hx hb hown (hts _ w_669) dX5_put_4 ?_
    exact k_iretM hC hr hlk hS dX5_put_6 (by unfold s_putr s_putf s_putn; first | (rw [if_pos zc1, if_pos zc1, if_pos zc1]; exact ⟨rfl, hP⟩) | (rw [if_neg zc1, if_neg zc1, if_neg zc1]; exact ⟨rfl, hP⟩))
theorem L_X5_X5_put : LnkV RX5 30 yX5_put cX5_put 5 (some .int) 3 := ⟨w_665, w_667, w_25, w_60, w_668, ⟨by decide +kernel, by decide +kernel⟩, by decide +kernel⟩
set_option maxHeartbeats 4000000 in
set_option maxRecDepth 100000 in
theorem c_X5_setClearance (l : Launch) (g : kG) (o : Nat) (q : Nat) (f : Nat → Int32) (n : Nat) (v : Int32) : MI l yX5_setClearance cX5_setClearance 2 (some .int) (rr 3 68) [.ref o, .int (v)] ((RP g o q f n)) g 0 0 (RA o q) (fun r H1 => r = s_putr f n 0 (nI 1 ≤ v ∧ v ≤ nI 20) ∧ RP g o q (s_putf f n 0 (nI 1 ≤ v ∧ v ≤ nI 20) v) (s_putn n (nI 1 ≤ v ∧ v ≤ nI 20)) H1) := by
  refine kOf (by decide) (Nat.le_of_ble_eq_true rfl) (fun p e s m below meth c ls hC hr hlk hin hK hP hl => ?_)
  have hx := hC.1
  have hb := hC.2.1
  have hml := hC.2.2.1
  have hown := hC.2.2.2.1
  have hts := hC.2.2.2.2
  have hl : lv_has ls 2 [(0, .ref o), (1, .int (v))] := hl
  have hS : va_S (RA o q) s.heap s.heap [] := va_S.rf
  refine lv_aload_n hx hb dX5_setClearance_0 rfl (lvG hl rfl) ?_
  refine lv_iconst (v := nI 0) hx hb dX5_setClearance_1 (by decide) ?_
  refine lv_iload_n hx hb dX5_setClearance_2 rfl (lvG hl rfl) ?_
  refine lv_iconst (v := nI 1) hx hb dX5_setClearance_3 (by decide) ?_
  refine lv_bipush (v := nI 20) hx hb dX5_setClearance_4 (by decide) ?_
  refine k_callPI (k_goS (rest := [.int (nI 0), .ref o]) hC hK (c_X5_in l g v (nI 1) (nI 20)) L_X5_X5_in (⟨⟨Nat.le_of_ble_eq_true rfl, Nat.le_of_ble_eq_true rfl⟩, ⟨rfl, rfl⟩, ⟨Nat.le_of_ble_eq_true rfl, Nat.le_of_ble_eq_true rfl⟩⟩) (trivial) rfl hl.1 rfl (Nat.le_of_ble_eq_true rfl) dX5_setClearance_6) ?_
  refine lv_iload_n hx hb dX5_setClearance_9 rfl (lvG hl rfl) ?_
  refine k_callMI0 (k_goV (rest := []) hC hK (c_X5_put l g o q f n 0 ((nI 1) ≤ v ∧ v ≤ (nI 20)) (inferInstance) v (by first | assumption | omega)) L_X5_X5_put (⟨⟨Nat.le_of_ble_eq_true rfl, Nat.le_of_ble_eq_true rfl⟩, ⟨rfl, rfl⟩, ⟨Nat.le_of_ble_eq_true rfl, Nat.le_of_ble_eq_true rfl⟩⟩) (hP.recv hK) (hP) rfl hl.1 rfl (Nat.le_of_ble_eq_true rfl) dX5_setClearance_10) hS (fun _ h => h) (fun r_ H_1 locs_2 hq_ _ _ hS_4 => ?_)
  obtain ⟨rfl, hP_3⟩ := hq_
  exact k_iretM hC hr hlk hS_4 dX5_setClearance_13 (⟨rfl, hP_3⟩)
set_option maxHeartbeats 4000000 in
set_option maxRecDepth 100000 in
theorem c_X5_setStroke (l : Launch) (g : kG) (o : Nat) (q : Nat) (f : Nat → Int32) (n : Nat) (v : Int32) : MI l yX5_setStroke cX5_setStroke 2 (some .int) (rr 3 68) [.ref o, .int (v)] ((RP g o q f n)) g 0 0 (RA o q) (fun r H1 => r = s_putr f n 3 (nI 1 ≤ v ∧ v ≤ nI 300) ∧ RP g o q (s_putf f n 3 (nI 1 ≤ v ∧ v ≤ nI 300) v) (s_putn n (nI 1 ≤ v ∧ v ≤ nI 300)) H1) := by
  refine kOf (by decide) (Nat.le_of_ble_eq_true rfl) (fun p e s m below meth c ls hC hr hlk hin hK hP hl => ?_)
  have hx := hC.1
  have hb := hC.2.1
  have hml := hC.2.2.1
  have hown := hC.2.2.2.1
  have hts := hC.2.2.2.2
  have hl : lv_has ls 2 [(0, .ref o), (1, .int (v))] := hl
  have hS : va_S (RA o q) s.heap s.heap [] := va_S.rf
  refine lv_aload_n hx hb dX5_setStroke_0 rfl (lvG hl rfl) ?_
  refine lv_iconst (v := nI 3) hx hb dX5_setStroke_1 (by decide) ?_
  refine lv_iload_n hx hb dX5_setStroke_2 rfl (lvG hl rfl) ?_
  refine lv_iconst (v := nI 1) hx hb dX5_setStroke_3 (by decide) ?_
  refine lv_sipush (v := nI 300) hx hb dX5_setStroke_4 (by decide) ?_
  refine k_callPI (k_goS (rest := [.int (nI 3), .ref o]) hC hK (c_X5_in l g v (nI 1) (nI 300)) L_X5_X5_in (⟨⟨Nat.le_of_ble_eq_true rfl, Nat.le_of_ble_eq_true rfl⟩, ⟨rfl, rfl⟩, ⟨Nat.le_of_ble_eq_true rfl, Nat.le_of_ble_eq_true rfl⟩⟩) (trivial) rfl hl.1 rfl (Nat.le_of_ble_eq_true rfl) dX5_setStroke_7) ?_
  refine lv_iload_n hx hb dX5_setStroke_10 rfl (lvG hl rfl) ?_
  refine k_callMI0 (k_goV (rest := []) hC hK (c_X5_put l g o q f n 3 ((nI 1) ≤ v ∧ v ≤ (nI 300)) (inferInstance) v (by first | assumption | omega)) L_X5_X5_put (⟨⟨Nat.le_of_ble_eq_true rfl, Nat.le_of_ble_eq_true rfl⟩, ⟨rfl, rfl⟩, ⟨Nat.le_of_ble_eq_true rfl, Nat.le_of_ble_eq_true rfl⟩⟩) (hP.recv hK) (hP) rfl hl.1 rfl (Nat.le_of_ble_eq_true rfl) dX5_setStroke_11) hS (fun _ h => h) (fun r_ H_1 locs_2 hq_ _ _ hS_4 => ?_)
  obtain ⟨rfl, hP_3⟩ := hq_
  exact k_iretM hC hr hlk hS_4 dX5_setStroke_14 (⟨rfl, hP_3⟩)
set_option maxHeartbeats 4000000 in
set_option maxRecDepth 100000 in
theorem c_X5_setBoilerPressure (l : Launch) (g : kG) (o : Nat) (q : Nat) (f : Nat → Int32) (n : Nat) (v : Int32) : MI l yX5_setBoilerPressure cX5_setBoilerPressure 2 (some .int) (rr 3 68) [.ref o, .int (v)] ((RP g o q f n)) g 0 0 (RA o q) (fun r H1 => r = s_putr f n 4 (nI 100 ≤ v ∧ v ≤ nI 2000) ∧ RP g o q (s_putf f n 4 (nI 100 ≤ v ∧ v ≤ nI 2000) v) (s_putn n (nI 100 ≤ v ∧ v ≤ nI 2000)) H1) := by
  refine kOf (by decide) (Nat.le_of_ble_eq_true rfl) (fun p e s m below meth c ls hC hr hlk hin hK hP hl => ?_)
  have hx := hC.1
  have hb := hC.2.1
  have hml := hC.2.2.1
  have hown := hC.2.2.2.1
  have hts := hC.2.2.2.2
  have hl : lv_has ls 2 [(0, .ref o), (1, .int (v))] := hl
  have hS : va_S (RA o q) s.heap s.heap [] := va_S.rf
  refine lv_aload_n hx hb dX5_setBoilerPressure_0 rfl (lvG hl rfl) ?_
  refine lv_iconst (v := nI 4) hx hb dX5_setBoilerPressure_1 (by decide) ?_
  refine lv_iload_n hx hb dX5_setBoilerPressure_2 rfl (lvG hl rfl) ?_
  refine lv_bipush (v := nI 100) hx hb dX5_setBoilerPressure_3 (by decide) ?_
  refine lv_sipush (v := nI 2000) hx hb dX5_setBoilerPressure_5 (by decide) ?_
  refine k_callPI (k_goS (rest := [.int (nI 4), .ref o]) hC hK (c_X5_in l g v (nI 100) (nI 2000)) L_X5_X5_in (⟨⟨Nat.le_of_ble_eq_true rfl, Nat.le_of_ble_eq_true rfl⟩, ⟨rfl, rfl⟩, ⟨Nat.le_of_ble_eq_true rfl, Nat.le_of_ble_eq_true rfl⟩⟩) (trivial) rfl hl.1 rfl (Nat.le_of_ble_eq_true rfl) dX5_setBoilerPressure_8) ?_
  refine lv_iload_n hx hb dX5_setBoilerPressure_11 rfl (lvG hl rfl) ?_
  refine k_callMI0 (k_goV (rest := []) hC hK (c_X5_put l g o q f n 4 ((nI 100) ≤ v ∧ v ≤ (nI 2000)) (inferInstance) v (by first | assumption | omega)) L_X5_X5_put (⟨⟨Nat.le_of_ble_eq_true rfl, Nat.le_of_ble_eq_true rfl⟩, ⟨rfl, rfl⟩, ⟨Nat.le_of_ble_eq_true rfl, Nat.le_of_ble_eq_true rfl⟩⟩) (hP.recv hK) (hP) rfl hl.1 rfl (Nat.le_of_ble_eq_true rfl) dX5_setBoilerPressure_12) hS (fun _ h => h) (fun r_ H_1 locs_2 hq_ _ _ hS_4 => ?_)
  obtain ⟨rfl, hP_3⟩ := hq_
  exact k_iretM hC hr hlk hS_4 dX5_setBoilerPressure_15 (⟨rfl, hP_3⟩)
set_option maxHeartbeats 4000000 in
set_option maxRecDepth 100000 in
theorem c_X5_setBackPressure (l : Launch) (g : kG) (o : Nat) (q : Nat) (f : Nat → Int32) (n : Nat) (v : Int32) : MI l yX5_setBackPressure cX5_setBackPressure 2 (some .int) (rr 3 68) [.ref o, .int (v)] ((RP g o q f n)) g 0 0 (RA o q) (fun r H1 => r = s_putr f n 5 (nI 10 ≤ v ∧ v ≤ nI 99) ∧ RP g o q (s_putf f n 5 (nI 10 ≤ v ∧ v ≤ nI 99) v) (s_putn n (nI 10 ≤ v ∧ v ≤ nI 99)) H1) := by
  refine kOf (by decide) (Nat.le_of_ble_eq_true rfl) (fun p e s m below meth c ls hC hr hlk hin hK hP hl => ?_)
  have hx := hC.1
  have hb := hC.2.1
  have hml := hC.2.2.1
  have hown := hC.2.2.2.1
  have hts := hC.2.2.2.2
  have hl : lv_has ls 2 [(0, .ref o), (1, .int (v))] := hl
  have hS : va_S (RA o q) s.heap s.heap [] := va_S.rf
  refine lv_aload_n hx hb dX5_setBackPressure_0 rfl (lvG hl rfl) ?_
  refine lv_iconst (v := nI 5) hx hb dX5_setBackPressure_1 (by decide) ?_
  refine lv_iload_n hx hb dX5_setBackPressure_2 rfl (lvG hl rfl) ?_
  refine lv_bipush (v := nI 10) hx hb dX5_setBackPressure_3 (by decide) ?_
  refine lv_bipush (v := nI 99) hx hb dX5_setBackPressure_5 (by decide) ?_
  refine k_callPI (k_goS (rest := [.int (nI 5), .ref o]) hC hK (c_X5_in l g v (nI 10) (nI 99)) L_X5_X5_in (⟨⟨Nat.le_of_ble_eq_true rfl, Nat.le_of_ble_eq_true rfl⟩, ⟨rfl, rfl⟩, ⟨Nat.le_of_ble_eq_true rfl, Nat.le_of_ble_eq_true rfl⟩⟩) (trivial) rfl hl.1 rfl (Nat.le_of_ble_eq_true rfl) dX5_setBackPressure_7) ?_
  refine lv_iload_n hx hb dX5_setBackPressure_10 rfl (lvG hl rfl) ?_
  refine k_callMI0 (k_goV (rest := []) hC hK (c_X5_put l g o q f n 5 ((nI 10) ≤ v ∧ v ≤ (nI 99)) (inferInstance) v (by first | assumption | omega)) L_X5_X5_put (⟨⟨Nat.le_of_ble_eq_true rfl, Nat.le_of_ble_eq_true rfl⟩, ⟨rfl, rfl⟩, ⟨Nat.le_of_ble_eq_true rfl, Nat.le_of_ble_eq_true rfl⟩⟩) (hP.recv hK) (hP) rfl hl.1 rfl (Nat.le_of_ble_eq_true rfl) dX5_setBackPressure_11) hS (fun _ h => h) (fun r_ H_1 locs_2 hq_ _ _ hS_4 => ?_)
  obtain ⟨rfl, hP_3⟩ := hq_
  exact k_iretM hC hr hlk hS_4 dX5_setBackPressure_14 (⟨rfl, hP_3⟩)
abbrev s_okPA (en v : Int32) : Prop := (nI 0 ≤ en ∧ en ≤ nI 1) ∧ (nI 1 ≤ v ∧ v ≤ nI 5000)
abbrev s_plPA (en : Int32) : Nat := if en = nI 1 then 2 else 1
theorem s_put_t {f : Nat → Int32} {n a b : Nat} {P Q : Prop} [Decidable P] [Decidable Q] {x : Int32} (ha : a = b) (h : P ↔ Q) : s_putr f n a P = s_putr f n b Q ∧ s_putf f n a P x = s_putf f n b Q x ∧ s_putn n P = s_putn n Q := by
  subst ha
  unfold s_putr s_putf s_putn
  by_cases hp : P
  · rw [if_pos hp, if_pos hp, if_pos hp, if_pos (h.mp hp), if_pos (h.mp hp), if_pos (h.mp hp)]; exact ⟨rfl, rfl, rfl⟩
  · rw [if_neg hp, if_neg hp, if_neg hp, if_neg (fun q => hp (h.mpr q)), if_neg (fun q => hp (h.mpr q)), if_neg (fun q => hp (h.mpr q))]; exact ⟨rfl, rfl, rfl⟩
theorem L_X5_X5_isEnd : LnkS RX5 34 yX5_isEnd cX5_isEnd 1 (some .boolean) 1 := ⟨w_678, w_679, w_60, w_680, ⟨by decide +kernel, by decide +kernel⟩, by decide +kernel⟩
set_option maxHeartbeats 4000000 in
set_option maxRecDepth 100000 in
theorem c_X5_setPistonArea (l : Launch) (g : kG) (o : Nat) (q : Nat) (f : Nat → Int32) (n : Nat) (en : Int32) (v : Int32) : MI l yX5_setPistonArea cX5_setPistonArea 3 (some .int) (rr 3 68) [.ref o, .int (en), .int (v)] ((RP g o q f n)) g 0 0 (RA o q) (fun r H1 => r = s_putr f n (s_plPA en) (s_okPA en v) ∧ RP g o q (s_putf f n (s_plPA en) (s_okPA en v) v) (s_putn n (s_okPA en v)) H1) := by
  refine kOf (by decide) (Nat.le_of_ble_eq_true rfl) (fun p e s m below meth c ls hC hr hlk hin hK hP hl => ?_)
  have hx := hC.1
  have hb := hC.2.1
  have hml := hC.2.2.1
  have hown := hC.2.2.2.1
  have hts := hC.2.2.2.2
  have hl : lv_has ls 3 [(0, .ref o), (1, .int (en)), (2, .int (v))] := hl
  have hS : va_S (RA o q) s.heap s.heap [] := va_S.rf
  refine lv_aload_n hx hb dX5_setPistonArea_0 rfl (lvG hl rfl) ?_
  refine lv_iload_n hx hb dX5_setPistonArea_1 rfl (lvG hl rfl) ?_
  refine lv_iconst (v := nI 1) hx hb dX5_setPistonArea_2 (by decide) ?_
  refine lv_icmp_ne (tgt := 10) hx hb dX5_setPistonArea_3 (by decide) (fun zc3 => ?_) (fun zc3 => ?_)
  · refine lv_iconst (v := nI 1) hx hb dX5_setPistonArea_10 (by decide) ?_
    refine lv_iload_n hx hb dX5_setPistonArea_11 rfl (lvG hl rfl) ?_
    refine k_callPI (k_goS (rest := [.int (nI 1), .ref o]) hC hK (c_X5_isEnd l g en) L_X5_X5_isEnd (⟨⟨Nat.le_of_ble_eq_true rfl, Nat.le_of_ble_eq_true rfl⟩, ⟨rfl, rfl⟩, ⟨Nat.le_of_ble_eq_true rfl, Nat.le_of_ble_eq_true rfl⟩⟩) (trivial) rfl hl.1 rfl (Nat.le_of_ble_eq_true rfl) dX5_setPistonArea_12) ?_
    refine b_ifeq (tgt := 33) hC dX5_setPistonArea_15 (by decide) (fun zc15 => ?_) (fun zc15 => ?_)
    · refine lv_iconst (v := nI 0) hx hb dX5_setPistonArea_33 (by decide) ?_
      refine lv_iload_n hx hb dX5_setPistonArea_34 rfl (lvG hl rfl) ?_
      refine k_callMI0 (k_goV (rest := []) hC hK (c_X5_put l g o q f n 1 False (inferInstance) v (by first | assumption | omega)) L_X5_X5_put (⟨⟨Nat.le_of_ble_eq_true rfl, Nat.le_of_ble_eq_true rfl⟩, ⟨rfl, rfl⟩, ⟨Nat.le_of_ble_eq_true rfl, Nat.le_of_ble_eq_true rfl⟩⟩) (hP.recv hK) (hP) rfl hl.1 rfl (Nat.le_of_ble_eq_true rfl) dX5_setPistonArea_35) hS (fun _ h => h) (fun r_ H_1 locs_2 hq_ _ _ hS_4 => ?_)
      obtain ⟨rfl, hP_3⟩ := hq_
      exact k_iretM hC hr hlk hS_4 dX5_setPistonArea_38 (by first | (have t := s_put_t (f := f) (n := n) (a := 2) (b := s_plPA en) (P := True) (Q := s_okPA en v) (x := v) (by grind) (by grind); rw [← t.1, ← t.2.1, ← t.2.2]; exact ⟨rfl, hP_3⟩) | (have t := s_put_t (f := f) (n := n) (a := 1) (b := s_plPA en) (P := True) (Q := s_okPA en v) (x := v) (by grind) (by grind); rw [← t.1, ← t.2.1, ← t.2.2]; exact ⟨rfl, hP_3⟩) | (have t := s_put_t (f := f) (n := n) (a := 2) (b := s_plPA en) (P := False) (Q := s_okPA en v) (x := v) (by grind) (by grind); rw [← t.1, ← t.2.1, ← t.2.2]; exact ⟨rfl, hP_3⟩) | (have t := s_put_t (f := f) (n := n) (a := 1) (b := s_plPA en) (P := False) (Q := s_okPA en v) (x := v) (by grind) (by grind); rw [← t.1, ← t.2.1, ← t.2.2]; exact ⟨rfl, hP_3⟩))
    · refine lv_iload_n hx hb dX5_setPistonArea_18 rfl (lvG hl rfl) ?_
      refine lv_iconst (v := nI 1) hx hb dX5_setPistonArea_19 (by decide) ?_
      refine lv_sipush (v := nI 5000) hx hb dX5_setPistonArea_20 (by decide) ?_
      refine k_callPI (k_goS (rest := [.int (nI 1), .ref o]) hC hK (c_X5_in l g v (nI 1) (nI 5000)) L_X5_X5_in (⟨⟨Nat.le_of_ble_eq_true rfl, Nat.le_of_ble_eq_true rfl⟩, ⟨rfl, rfl⟩, ⟨Nat.le_of_ble_eq_true rfl, Nat.le_of_ble_eq_true rfl⟩⟩) (trivial) rfl hl.1 rfl (Nat.le_of_ble_eq_true rfl) dX5_setPistonArea_23) ?_
      refine b_ifeq (tgt := 33) hC dX5_setPistonArea_26 (by decide) (fun zc26 => ?_) (fun zc26 => ?_)
      · refine lv_iconst (v := nI 0) hx hb dX5_setPistonArea_33 (by decide) ?_
        refine lv_iload_n hx hb dX5_setPistonArea_34 rfl (lvG hl rfl) ?_
        refine k_callMI0 (k_goV (rest := []) hC hK (c_X5_put l g o q f n 1 False (inferInstance) v (by first | assumption | omega)) L_X5_X5_put (⟨⟨Nat.le_of_ble_eq_true rfl, Nat.le_of_ble_eq_true rfl⟩, ⟨rfl, rfl⟩, ⟨Nat.le_of_ble_eq_true rfl, Nat.le_of_ble_eq_true rfl⟩⟩) (hP.recv hK) (hP) rfl hl.1 rfl (Nat.le_of_ble_eq_true rfl) dX5_setPistonArea_35) hS (fun _ h => h) (fun r_ H_5 locs_6 hq_ _ _ hS_8 => ?_)
        obtain ⟨rfl, hP_7⟩ := hq_
        exact k_iretM hC hr hlk hS_8 dX5_setPistonArea_38 (by first | (have t := s_put_t (f := f) (n := n) (a := 2) (b := s_plPA en) (P := True) (Q := s_okPA en v) (x := v) (by grind) (by grind); rw [← t.1, ← t.2.1, ← t.2.2]; exact ⟨rfl, hP_7⟩) | (have t := s_put_t (f := f) (n := n) (a := 1) (b := s_plPA en) (P := True) (Q := s_okPA en v) (x := v) (by grind) (by grind); rw [← t.1, ← t.2.1, ← t.2.2]; exact ⟨rfl, hP_7⟩) | (have t := s_put_t (f := f) (n := n) (a := 2) (b := s_plPA en) (P := False) (Q := s_okPA en v) (x := v) (by grind) (by grind); rw [← t.1, ← t.2.1, ← t.2.2]; exact ⟨rfl, hP_7⟩) | (have t := s_put_t (f := f) (n := n) (a := 1) (b := s_plPA en) (P := False) (Q := s_okPA en v) (x := v) (by grind) (by grind); rw [← t.1, ← t.2.1, ← t.2.2]; exact ⟨rfl, hP_7⟩))
      · refine lv_iconst (v := nI 1) hx hb dX5_setPistonArea_29 (by decide) ?_
        refine lv_goto (tgt := 34) hx hb dX5_setPistonArea_30 (by decide) ?_
        refine lv_iload_n hx hb dX5_setPistonArea_34 rfl (lvG hl rfl) ?_
        refine k_callMI0 (k_goV (rest := []) hC hK (c_X5_put l g o q f n 1 True (inferInstance) v (by first | assumption | omega)) L_X5_X5_put (⟨⟨Nat.le_of_ble_eq_true rfl, Nat.le_of_ble_eq_true rfl⟩, ⟨rfl, rfl⟩, ⟨Nat.le_of_ble_eq_true rfl, Nat.le_of_ble_eq_true rfl⟩⟩) (hP.recv hK) (hP) rfl hl.1 rfl (Nat.le_of_ble_eq_true rfl) dX5_setPistonArea_35) hS (fun _ h => h) (fun r_ H_9 locs_10 hq_ _ _ hS_12 => ?_)
        obtain ⟨rfl, hP_11⟩ := hq_
        exact k_iretM hC hr hlk hS_12 dX5_setPistonArea_38 (by first | (have t := s_put_t (f := f) (n := n) (a := 2) (b := s_plPA en) (P := True) (Q := s_okPA en v) (x := v) (by grind) (by grind); rw [← t.1, ← t.2.1, ← t.2.2]; exact ⟨rfl, hP_11⟩) | (have t := s_put_t (f := f) (n := n) (a := 1) (b := s_plPA en) (P := True) (Q := s_okPA en v) (x := v) (by grind) (by grind); rw [← t.1, ← t.2.1, ← t.2.2]; exact ⟨rfl, hP_11⟩) | (have t := s_put_t (f := f) (n := n) (a := 2) (b := s_plPA en) (P := False) (Q := s_okPA en v) (x := v) (by grind) (by grind); rw [← t.1, ← t.2.1, ← t.2.2]; exact ⟨rfl, hP_11⟩) | (have t := s_put_t (f := f) (n := n) (a := 1) (b := s_plPA en) (P := False) (Q := s_okPA en v) (x := v) (by grind) (by grind); rw [← t.1, ← t.2.1, ← t.2.2]; exact ⟨rfl, hP_11⟩))
  · refine lv_iconst (v := nI 2) hx hb dX5_setPistonArea_6 (by decide) ?_
    refine lv_goto (tgt := 11) hx hb dX5_setPistonArea_7 (by decide) ?_
    refine lv_iload_n hx hb dX5_setPistonArea_11 rfl (lvG hl rfl) ?_
    refine k_callPI (k_goS (rest := [.int (nI 2), .ref o]) hC hK (c_X5_isEnd l g en) L_X5_X5_isEnd (⟨⟨Nat.le_of_ble_eq_true rfl, Nat.le_of_ble_eq_true rfl⟩, ⟨rfl, rfl⟩, ⟨Nat.le_of_ble_eq_true rfl, Nat.le_of_ble_eq_true rfl⟩⟩) (trivial) rfl hl.1 rfl (Nat.le_of_ble_eq_true rfl) dX5_setPistonArea_12) ?_
    refine b_ifeq (tgt := 33) hC dX5_setPistonArea_15 (by decide) (fun zc15 => ?_) (fun zc15 => ?_)
    · refine lv_iconst (v := nI 0) hx hb dX5_setPistonArea_33 (by decide) ?_
      refine lv_iload_n hx hb dX5_setPistonArea_34 rfl (lvG hl rfl) ?_
      refine k_callMI0 (k_goV (rest := []) hC hK (c_X5_put l g o q f n 2 False (inferInstance) v (by first | assumption | omega)) L_X5_X5_put (⟨⟨Nat.le_of_ble_eq_true rfl, Nat.le_of_ble_eq_true rfl⟩, ⟨rfl, rfl⟩, ⟨Nat.le_of_ble_eq_true rfl, Nat.le_of_ble_eq_true rfl⟩⟩) (hP.recv hK) (hP) rfl hl.1 rfl (Nat.le_of_ble_eq_true rfl) dX5_setPistonArea_35) hS (fun _ h => h) (fun r_ H_13 locs_14 hq_ _ _ hS_16 => ?_)
      obtain ⟨rfl, hP_15⟩ := hq_
      exact k_iretM hC hr hlk hS_16 dX5_setPistonArea_38 (by first | (have t := s_put_t (f := f) (n := n) (a := 2) (b := s_plPA en) (P := True) (Q := s_okPA en v) (x := v) (by grind) (by grind); rw [← t.1, ← t.2.1, ← t.2.2]; exact ⟨rfl, hP_15⟩) | (have t := s_put_t (f := f) (n := n) (a := 1) (b := s_plPA en) (P := True) (Q := s_okPA en v) (x := v) (by grind) (by grind); rw [← t.1, ← t.2.1, ← t.2.2]; exact ⟨rfl, hP_15⟩) | (have t := s_put_t (f := f) (n := n) (a := 2) (b := s_plPA en) (P := False) (Q := s_okPA en v) (x := v) (by grind) (by grind); rw [← t.1, ← t.2.1, ← t.2.2]; exact ⟨rfl, hP_15⟩) | (have t := s_put_t (f := f) (n := n) (a := 1) (b := s_plPA en) (P := False) (Q := s_okPA en v) (x := v) (by grind) (by grind); rw [← t.1, ← t.2.1, ← t.2.2]; exact ⟨rfl, hP_15⟩))
    · refine lv_iload_n hx hb dX5_setPistonArea_18 rfl (lvG hl rfl) ?_
      refine lv_iconst (v := nI 1) hx hb dX5_setPistonArea_19 (by decide) ?_
      refine lv_sipush (v := nI 5000) hx hb dX5_setPistonArea_20 (by decide) ?_
      refine k_callPI (k_goS (rest := [.int (nI 2), .ref o]) hC hK (c_X5_in l g v (nI 1) (nI 5000)) L_X5_X5_in (⟨⟨Nat.le_of_ble_eq_true rfl, Nat.le_of_ble_eq_true rfl⟩, ⟨rfl, rfl⟩, ⟨Nat.le_of_ble_eq_true rfl, Nat.le_of_ble_eq_true rfl⟩⟩) (trivial) rfl hl.1 rfl (Nat.le_of_ble_eq_true rfl) dX5_setPistonArea_23) ?_
      refine b_ifeq (tgt := 33) hC dX5_setPistonArea_26 (by decide) (fun zc26 => ?_) (fun zc26 => ?_)
      · refine lv_iconst (v := nI 0) hx hb dX5_setPistonArea_33 (by decide) ?_
        refine lv_iload_n hx hb dX5_setPistonArea_34 rfl (lvG hl rfl) ?_
        refine k_callMI0 (k_goV (rest := []) hC hK (c_X5_put l g o q f n 2 False (inferInstance) v (by first | assumption | omega)) L_X5_X5_put (⟨⟨Nat.le_of_ble_eq_true rfl, Nat.le_of_ble_eq_true rfl⟩, ⟨rfl, rfl⟩, ⟨Nat.le_of_ble_eq_true rfl, Nat.le_of_ble_eq_true rfl⟩⟩) (hP.recv hK) (hP) rfl hl.1 rfl (Nat.le_of_ble_eq_true rfl) dX5_setPistonArea_35) hS (fun _ h => h) (fun r_ H_17 locs_18 hq_ _ _ hS_20 => ?_)
        obtain ⟨rfl, hP_19⟩ := hq_
        exact k_iretM hC hr hlk hS_20 dX5_setPistonArea_38 (by first | (have t := s_put_t (f := f) (n := n) (a := 2) (b := s_plPA en) (P := True) (Q := s_okPA en v) (x := v) (by grind) (by grind); rw [← t.1, ← t.2.1, ← t.2.2]; exact ⟨rfl, hP_19⟩) | (have t := s_put_t (f := f) (n := n) (a := 1) (b := s_plPA en) (P := True) (Q := s_okPA en v) (x := v) (by grind) (by grind); rw [← t.1, ← t.2.1, ← t.2.2]; exact ⟨rfl, hP_19⟩) | (have t := s_put_t (f := f) (n := n) (a := 2) (b := s_plPA en) (P := False) (Q := s_okPA en v) (x := v) (by grind) (by grind); rw [← t.1, ← t.2.1, ← t.2.2]; exact ⟨rfl, hP_19⟩) | (have t := s_put_t (f := f) (n := n) (a := 1) (b := s_plPA en) (P := False) (Q := s_okPA en v) (x := v) (by grind) (by grind); rw [← t.1, ← t.2.1, ← t.2.2]; exact ⟨rfl, hP_19⟩))
      · refine lv_iconst (v := nI 1) hx hb dX5_setPistonArea_29 (by decide) ?_
        refine lv_goto (tgt := 34) hx hb dX5_setPistonArea_30 (by decide) ?_
        refine lv_iload_n hx hb dX5_setPistonArea_34 rfl (lvG hl rfl) ?_
        refine k_callMI0 (k_goV (rest := []) hC hK (c_X5_put l g o q f n 2 True (inferInstance) v (by first | assumption | omega)) L_X5_X5_put (⟨⟨Nat.le_of_ble_eq_true rfl, Nat.le_of_ble_eq_true rfl⟩, ⟨rfl, rfl⟩, ⟨Nat.le_of_ble_eq_true rfl, Nat.le_of_ble_eq_true rfl⟩⟩) (hP.recv hK) (hP) rfl hl.1 rfl (Nat.le_of_ble_eq_true rfl) dX5_setPistonArea_35) hS (fun _ h => h) (fun r_ H_21 locs_22 hq_ _ _ hS_24 => ?_)
        obtain ⟨rfl, hP_23⟩ := hq_
        exact k_iretM hC hr hlk hS_24 dX5_setPistonArea_38 (by first | (have t := s_put_t (f := f) (n := n) (a := 2) (b := s_plPA en) (P := True) (Q := s_okPA en v) (x := v) (by grind) (by grind); rw [← t.1, ← t.2.1, ← t.2.2]; exact ⟨rfl, hP_23⟩) | (have t := s_put_t (f := f) (n := n) (a := 1) (b := s_plPA en) (P := True) (Q := s_okPA en v) (x := v) (by grind) (by grind); rw [← t.1, ← t.2.1, ← t.2.2]; exact ⟨rfl, hP_23⟩) | (have t := s_put_t (f := f) (n := n) (a := 2) (b := s_plPA en) (P := False) (Q := s_okPA en v) (x := v) (by grind) (by grind); rw [← t.1, ← t.2.1, ← t.2.2]; exact ⟨rfl, hP_23⟩) | (have t := s_put_t (f := f) (n := n) (a := 1) (b := s_plPA en) (P := False) (Q := s_okPA en v) (x := v) (by grind) (by grind); rw [← t.1, ← t.2.1, ← t.2.2]; exact ⟨rfl, hP_23⟩))
