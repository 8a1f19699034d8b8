set_option maxHeartbeats 4000000 in
set_option maxRecDepth 100000 in
theorem c_X0_differenceAt (l : Launch) (g : kG) (qc : Nat) (qo : Nat) (qi : Nat) (e0 : Int32) (sp : Int32) (p0 : Nat → Int32) (st : Nat) (hst : st < 21) : PI l yX0_differenceAt cX0_differenceAt 2 (some .int) (rr 0 0) [.ref qc, .int (nI st)] ((va_P g.1 kCl (wC g qc qo qi e0 sp p0))) g (s_df p0 st) := by
  refine kOf (by decide) (Nat.le_of_ble_eq_true rfl) (fun p e s m below meth c ls hC hr hlk hin hK hP hl => ?_)
  have hx := hC.1
  have hb := hC.2.1
  have hml := hC.2.2.1
  have hown := hC.2.2.2.1
  have hts := hC.2.2.2.2
  have hl : lv_has ls 2 [(0, .ref qc), (1, .int (nI st))] := hl
  refine lv_aload_n hx hb dX0_differenceAt_0 rfl (lvG hl rfl) ?_
  refine va_get (D := g.1) (ci := 0) (v := .ref qo) (C := RX0) (T := TX0) (N := 4) hx hb hts i_X0 hown hK.1 hP 0 rfl rfl 2 (by decide) (hts _ w_48) (fun _ h9 => h9) rfl dX0_differenceAt_1 ?_
  refine lv_iload_n hx hb dX0_differenceAt_4 rfl (lvG hl rfl) ?_
  refine k_ald (k := st) hC hK hP 1 rfl (by omega) (by decide) dX0_differenceAt_5 ?_
  refine lv_aload_n hx hb dX0_differenceAt_6 rfl (lvG hl rfl) ?_
  refine va_get (D := g.1) (ci := 0) (v := .ref qi) (C := RX0) (T := TX0) (N := 4) hx hb hts i_X0 hown hK.1 hP 0 rfl rfl 3 (by decide) (hts _ w_50) (fun _ h9 => h9) rfl dX0_differenceAt_7 ?_
  refine lv_iload_n hx hb dX0_differenceAt_10 rfl (lvG hl rfl) ?_
  refine k_ald (k := st) hC hK hP 2 rfl (by omega) (by decide) dX0_differenceAt_11 ?_
  refine lv_isub hx hb dX0_differenceAt_12 ?_
  exact k_iret hC hr hlk dX0_differenceAt_13 (by first | rfl | grind [] | grind [nI])
theorem L_X0_X0_differenceAt : LnkV RX0 18 yX0_differenceAt cX0_differenceAt 2 (some .int) 1 := ⟨w_349, w_350, w_351, w_26, w_352, ⟨by decide +kernel, by decide +kernel⟩, by decide +kernel⟩
set_option maxHeartbeats 4000000 in
set_option maxRecDepth 100000 in
theorem c_X0_wholeArea (l : Launch) (g : kG) (qc : Nat) (qo : Nat) (qi : Nat) (e0 : Int32) (sp : Int32) (p0 : Nat → Int32) : PI l yX0_wholeArea cX0_wholeArea 3 (some .int) (rr 1 21) [.ref qc] ((va_P g.1 kCl (wC g qc qo qi e0 sp p0))) g (s_ar p0 20) := by
  refine kOf (by decide) (Nat.le_of_ble_eq_true rfl) (fun p e s m below meth c ls hC hr hlk hin hK hP hl => ?_)
  have hx := hC.1
  have hb := hC.2.1
  have hml := hC.2.2.1
  have hown := hC.2.2.2.1
  have hts := hC.2.2.2.2
  have hl : lv_has ls 3 [(0, .ref qc)] := hl
  refine lv_iconst (v := nI 0) hx hb dX0_wholeArea_0 (by decide) ?_
  refine lv_istore_n (lv' := [(1, .int (nI 0)), (0, .ref qc)]) hx hb dX0_wholeArea_1 rfl hl (by decide) rfl (fun ls hl => ?_)
  refine lv_iconst (v := nI 0) hx hb dX0_wholeArea_2 (by decide) ?_
  refine lv_istore_n (lv' := [(2, .int (nI 0)), (1, .int (nI 0)), (0, .ref qc)]) hx hb dX0_wholeArea_3 rfl hl (by decide) rfl (fun ls hl => ?_)
  have key_1 : ∀ (k_2 : Nat) (i : Nat) (sm : Int32)  (hi : i ≤ 20) (hs : sm = s_ar p0 i) (hk_k_2 : 20 - i < k_2) (ls : Array Slot) (hl : lv_has ls 3 [(2, .int (nI i)), (1, .int (sm)), (0, .ref qc)]), W p l e (rr 1 21) s m [.ref qc].toArray below meth c s.heap [] 0 0 (MQ below (vp_Si (fun r => r = s_ar p0 20)) [.ref qc].toArray s 0 0 (fun _ => False)) (F0 m 4 ls ([])) := by
    intro k_2
    induction k_2 with
    | zero => intro i sm hi hs hk_k_2 ls hl; exact absurd hk_k_2 (Nat.not_lt_zero _)
    | succ k_2 ih_3 =>
      intro i sm hi hs hk_k_2 ls hl
      refine lv_iload_n hx hb dX0_wholeArea_4 rfl (lvG hl rfl) ?_
      refine lv_bipush (v := nI 20) hx hb dX0_wholeArea_5 (by decide) ?_
      refine n_icmp_ge (tgt := 32) hC dX0_wholeArea_7 (by omega) (by omega) (by decide) (fun zc7 => ?_) (fun zc7 => ?_)
      · refine lv_iload_n hx hb dX0_wholeArea_32 rfl (lvG hl rfl) ?_
        exact k_iret hC hr hlk dX0_wholeArea_33 (by rw [hs, show i = 20 by omega])
      · refine lv_iload_n hx hb dX0_wholeArea_10 rfl (lvG hl rfl) ?_
        refine lv_aload_n hx hb dX0_wholeArea_11 rfl (lvG hl rfl) ?_
        refine lv_iload_n hx hb dX0_wholeArea_12 rfl (lvG hl rfl) ?_
        refine k_callPI (k_goV (rest := [.int (sm)]) hC hK (c_X0_differenceAt l g qc qo qi e0 sp p0 i (by first | assumption | omega)) L_X0_X0_differenceAt (⟨⟨Nat.le_of_ble_eq_true rfl, Nat.le_of_ble_eq_true rfl⟩, ⟨rfl, rfl⟩, ⟨Nat.le_of_ble_eq_true rfl, Nat.le_of_ble_eq_true rfl⟩⟩) (k_recv hK hP 0 rfl rfl) (hP) rfl hl.1 rfl (Nat.le_of_ble_eq_true rfl) dX0_wholeArea_13) ?_
        refine lv_aload_n hx hb dX0_wholeArea_16 rfl (lvG hl rfl) ?_
        refine lv_iload_n hx hb dX0_wholeArea_17 rfl (lvG hl rfl) ?_
        refine lv_iconst (v := nI 1) hx hb dX0_wholeArea_18 (by decide) ?_
        refine n_iadd hC dX0_wholeArea_19 ?_
        refine k_callPI (k_goV (rest := [.int (s_df p0 i), .int (sm)]) hC hK (c_X0_differenceAt l g qc qo qi e0 sp p0 (i + 1) (by first | assumption | omega)) L_X0_X0_differenceAt (⟨⟨Nat.le_of_ble_eq_true rfl, Nat.le_of_ble_eq_true rfl⟩, ⟨rfl, rfl⟩, ⟨Nat.le_of_ble_eq_true rfl, Nat.le_of_ble_eq_true rfl⟩⟩) (k_recv hK hP 0 rfl rfl) (hP) rfl hl.1 rfl (Nat.le_of_ble_eq_true rfl) dX0_wholeArea_20) ?_
        refine lv_iadd hx hb dX0_wholeArea_23 ?_
        refine lv_iadd hx hb dX0_wholeArea_24 ?_
        refine lv_istore_n (lv' := [(1, .int (sm + ((s_df p0 i) + (s_df p0 (i + 1))))), (2, .int (nI i)), (0, .ref qc)]) hx hb dX0_wholeArea_25 rfl hl (by decide) rfl (fun ls hl => ?_)
        refine n_iinc (lv' := [(2, .int (nI (i + 1))), (1, .int (sm + ((s_df p0 i) + (s_df p0 (i + 1))))), (0, .ref qc)]) hC dX0_wholeArea_26 hl rfl (by decide) rfl (fun ls hl => ?_)
        refine lv_goto (tgt := 4) hx hb dX0_wholeArea_29 (by decide) ?_
        exact ih_3 (i + 1) (sm + ((s_df p0 i) + (s_df p0 (i + 1))))  (by first | omega | assumption | rfl) (by rw [hs]; rfl) (by omega) ls (lv_sub hl [0, 1, 2] rfl)
  exact key_1 ((20 - 0) + 1) 0 (nI 0)  (by first | rfl | omega | assumption) (by first | rfl | omega | assumption) (Nat.lt_succ_self _) ls (lv_sub hl [0, 1, 2] rfl)
def q_pt (x y : Int32) : Int32 := if nI 0 ≤ x ∧ nI 0 ≤ y then x + y else if x ≤ nI 0 ∧ y ≤ nI 0 then nI 0 else q_i ((if x < y then y else x) * (if x < y then y else x)) ((if x < y then y else x) + -(if y < x then y else x))
def q_fa (p : Nat → Int32) : Nat → Int32
  | 0 => nI 0
  | k + 1 => q_fa p k + q_pt (s_df p k) (s_df p (k + 1))
def q_lo (p : Nat → Int32) : Nat → Int32
  | 0 => nI 0
  | k + 1 => q_lo p k + q_pt (-(s_df p k)) (-(s_df p (k + 1)))
theorem L_X0_X4_quotient : LnkN RX0 34 yX4_quotient RX4 cX4_quotient 2 (some .int) 2 := ⟨w_290, w_25, w_291, ⟨by decide +kernel, by decide +kernel⟩, by decide +kernel⟩
set_option maxHeartbeats 4000000 in
set_option maxRecDepth 100000 in
theorem c_X0_partAboveZero (l : Launch) (g : kG) (x : Int32) (y : Int32) : PI l yX0_partAboveZero cX0_partAboveZero 4 (some .int) (rr 2 43) [.int (x), .int (y)] ((fun _ => True)) g (q_pt x y) := by
  refine kOf (by decide) (Nat.le_of_ble_eq_true rfl) (fun p e s m below meth c ls hC hr hlk hin hK hP hl => ?_)
  have hx := hC.1
  have hb := hC.2.1
  have hml := hC.2.2.1
  have hown := hC.2.2.2.1
  have hts := hC.2.2.2.2
  have hl : lv_has ls 4 [(0, .int (x)), (1, .int (y))] := hl
  refine lv_iload_n hx hb dX0_partAboveZero_0 rfl (lvG hl rfl) ?_
  refine z_if_lt (tgt := 12) hC dX0_partAboveZero_1 (by decide) (fun zc1 => ?_) (fun zc1 => ?_)
  · refine lv_iload_n hx hb dX0_partAboveZero_12 rfl (lvG hl rfl) ?_
    refine z_if_gt (tgt := 22) hC dX0_partAboveZero_13 (by decide) (fun zc13 => ?_) (fun zc13 => ?_)
    · refine lv_iload_n hx hb dX0_partAboveZero_22 rfl (lvG hl rfl) ?_
      refine lv_iload_n hx hb dX0_partAboveZero_23 rfl (lvG hl rfl) ?_
      refine va_mmax hx hb (hml.trans hl.1.symm) hown (hts _ w_536) (hts _ w_369) (hts _ w_31) (hts _ w_370) (Nat.le_of_ble_eq_true rfl) (Nat.le_of_ble_eq_true rfl) (Nat.le_of_ble_eq_true rfl) (Nat.le_of_ble_eq_true rfl) dX0_partAboveZero_24 ?_
      refine lv_istore_n (lv' := [(2, .int (if x < y then y else x)), (0, .int (x)), (1, .int (y))]) hx hb dX0_partAboveZero_27 rfl hl (by decide) rfl (fun ls hl => ?_)
      refine lv_iload_n hx hb dX0_partAboveZero_28 rfl (lvG hl rfl) ?_
      refine lv_iload_n hx hb dX0_partAboveZero_29 rfl (lvG hl rfl) ?_
      refine va_mmin hx hb (hml.trans hl.1.symm) hown (hts _ w_537) (hts _ w_391) (hts _ w_31) (hts _ w_392) (Nat.le_of_ble_eq_true rfl) (Nat.le_of_ble_eq_true rfl) (Nat.le_of_ble_eq_true rfl) (Nat.le_of_ble_eq_true rfl) dX0_partAboveZero_30 ?_
      refine lv_ineg hx hb dX0_partAboveZero_33 ?_
      refine lv_istore_n (lv' := [(3, .int (-(if y < x then y else x))), (2, .int (if x < y then y else x)), (0, .int (x)), (1, .int (y))]) hx hb dX0_partAboveZero_34 rfl hl (by decide) rfl (fun ls hl => ?_)
      refine lv_iload_n hx hb dX0_partAboveZero_35 rfl (lvG hl rfl) ?_
      refine lv_iload_n hx hb dX0_partAboveZero_36 rfl (lvG hl rfl) ?_
      refine lv_imul hx hb dX0_partAboveZero_37 ?_
      refine lv_iload_n hx hb dX0_partAboveZero_38 rfl (lvG hl rfl) ?_
      refine lv_iload_n hx hb dX0_partAboveZero_39 rfl (lvG hl rfl) ?_
      refine lv_iadd hx hb dX0_partAboveZero_40 ?_
      refine k_callPI (k_goN (rest := []) hC hK (c_X4_quotient l g ((if x < y then y else x) * (if x < y then y else x)) ((if x < y then y else x) + (-(if y < x then y else x)))) hK.2.2.1 L_X0_X4_quotient (⟨⟨Nat.le_of_ble_eq_true rfl, Nat.le_of_ble_eq_true rfl⟩, ⟨rfl, rfl⟩, ⟨Nat.le_of_ble_eq_true rfl, Nat.le_of_ble_eq_true rfl⟩⟩) (trivial) rfl hl.1 rfl (Nat.le_of_ble_eq_true rfl) dX0_partAboveZero_41) ?_
      exact k_iret hC hr hlk dX0_partAboveZero_44 (by unfold q_pt; first | (rw [if_pos ⟨Int32.not_lt.mp zc1, Int32.not_lt.mp zc5⟩]; done) | (rw [if_neg (show ¬ (nI 0 ≤ x ∧ nI 0 ≤ y) by grind), if_pos (show x ≤ nI 0 ∧ y ≤ nI 0 from ⟨Int32.not_lt.mp zc13, Int32.not_lt.mp zc17⟩)]; done) | (rw [if_neg (show ¬ (nI 0 ≤ x ∧ nI 0 ≤ y) by grind), if_neg (show ¬ (x ≤ nI 0 ∧ y ≤ nI 0) by grind)]; done))
    · refine lv_iload_n hx hb dX0_partAboveZero_16 rfl (lvG hl rfl) ?_
      refine z_if_gt (tgt := 22) hC dX0_partAboveZero_17 (by decide) (fun zc17 => ?_) (fun zc17 => ?_)
      · refine lv_iload_n hx hb dX0_partAboveZero_22 rfl (lvG hl rfl) ?_
        refine lv_iload_n hx hb dX0_partAboveZero_23 rfl (lvG hl rfl) ?_
        refine va_mmax hx hb (hml.trans hl.1.symm) hown (hts _ w_536) (hts _ w_369) (hts _ w_31) (hts _ w_370) (Nat.le_of_ble_eq_true rfl) (Nat.le_of_ble_eq_true rfl) (Nat.le_of_ble_eq_true rfl) (Nat.le_of_ble_eq_true rfl) dX0_partAboveZero_24 ?_
        refine lv_istore_n (lv' := [(2, .int (if x < y then y else x)), (0, .int (x)), (1, .int (y))]) hx hb dX0_partAboveZero_27 rfl hl (by decide) rfl (fun ls hl => ?_)
        refine lv_iload_n hx hb dX0_partAboveZero_28 rfl (lvG hl rfl) ?_
        refine lv_iload_n hx hb dX0_partAboveZero_29 rfl (lvG hl rfl) ?_
        refine va_mmin hx hb (hml.trans hl.1.symm) hown (hts _ w_537) (hts _ w_391) (hts _ w_31) (hts _ w_392) (Nat.le_of_ble_eq_true rfl) (Nat.le_of_ble_eq_true rfl) (Nat.le_of_ble_eq_true rfl) (Nat.le_of_ble_eq_true rfl) dX0_partAboveZero_30 ?_
        refine lv_ineg hx hb dX0_partAboveZero_33 ?_
        refine lv_istore_n (lv' := [(3, .int (-(if y < x then y else x))), (2, .int (if x < y then y else x)), (0, .int (x)), (1, .int (y))]) hx hb dX0_partAboveZero_34 rfl hl (by decide) rfl (fun ls hl => ?_)
        refine lv_iload_n hx hb dX0_partAboveZero_35 rfl (lvG hl rfl) ?_
        refine lv_iload_n hx hb dX0_partAboveZero_36 rfl (lvG hl rfl) ?_
        refine lv_imul hx hb dX0_partAboveZero_37 ?_
        refine lv_iload_n hx hb dX0_partAboveZero_38 rfl (lvG hl rfl) ?_
        refine lv_iload_n hx hb dX0_partAboveZero_39 rfl (lvG hl rfl) ?_
        refine lv_iadd hx hb dX0_partAboveZero_40 ?_
        refine k_callPI (k_goN (rest := []) hC hK (c_X4_quotient l g ((if x < y then y else x) * (if x < y then y else x)) ((if x < y then y else x) + (-(if y < x then y else x)))) hK.2.2.1 L_X0_X4_quotient (⟨⟨Nat.le_of_ble_eq_true rfl, Nat.le_of_ble_eq_true rfl⟩, ⟨rfl, rfl⟩, ⟨Nat.le_of_ble_eq_true rfl, Nat.le_of_ble_eq_true rfl⟩⟩) (trivial) rfl hl.1 rfl (Nat.le_of_ble_eq_true rfl) dX0_partAboveZero_41) ?_
        exact k_iret hC hr hlk dX0_partAboveZero_44 (by unfold q_pt; first | (rw [if_pos ⟨Int32.not_lt.mp zc1, Int32.not_lt.mp zc5⟩]; done) | (rw [if_neg (show ¬ (nI 0 ≤ x ∧ nI 0 ≤ y) by grind), if_pos (show x ≤ nI 0 ∧ y ≤ nI 0 from ⟨Int32.not_lt.mp zc13, Int32.not_lt.mp zc17⟩)]; done) | (rw [if_neg (show ¬ (nI 0 ≤ x ∧ nI 0 ≤ y) by grind), if_neg (show ¬ (x ≤ nI 0 ∧ y ≤ nI 0) by grind)]; done))
      · refine lv_iconst (v := nI 0) hx hb dX0_partAboveZero_20 (by decide) ?_
        exact k_iret hC hr hlk dX0_partAboveZero_21 (by unfold q_pt; first | (rw [if_pos ⟨Int32.not_lt.mp zc1, Int32.not_lt.mp zc5⟩]; done) | (rw [if_neg (show ¬ (nI 0 ≤ x ∧ nI 0 ≤ y) by grind), if_pos (show x ≤ nI 0 ∧ y ≤ nI 0 from ⟨Int32.not_lt.mp zc13, Int32.not_lt.mp zc17⟩)]; done) | (rw [if_neg (show ¬ (nI 0 ≤ x ∧ nI 0 ≤ y) by grind), if_neg (show ¬ (x ≤ nI 0 ∧ y ≤ nI 0) by grind)]; done))
  · refine lv_iload_n hx hb dX0_partAboveZero_4 rfl (lvG hl rfl) ?_
    refine z_if_lt (tgt := 12) hC dX0_partAboveZero_5 (by decide) (fun zc5 => ?_) (fun zc5 => ?_)
    · refine lv_iload_n hx hb dX0_partAboveZero_12 rfl (lvG hl rfl) ?_
      refine z_if_gt (tgt := 22) hC dX0_partAboveZero_13 (by decide) (fun zc13 => ?_) (fun zc13 => ?_)
      · refine lv_iload_n hx hb dX0_partAboveZero_22 rfl (lvG hl rfl) ?_
        refine lv_iload_n hx hb dX0_partAboveZero_23 rfl (lvG hl rfl) ?_
        refine va_mmax hx hb (hml.trans hl.1.symm) hown (hts _ w_536) (hts _ w_369) (hts _ w_31) (hts _ w_370) (Nat.le_of_ble_eq_true rfl) (Nat.le_of_ble_eq_true rfl) (Nat.le_of_ble_eq_true rfl) (Nat.le_of_ble_eq_true rfl) dX0_partAboveZero_24 ?_
        refine lv_istore_n (lv' := [(2, .int (if x < y then y else x)), (0, .int (x)), (1, .int (y))]) hx hb dX0_partAboveZero_27 rfl hl (by decide) rfl (fun ls hl => ?_)
        refine lv_iload_n hx hb dX0_partAboveZero_28 rfl (lvG hl rfl) ?_
        refine lv_iload_n hx hb dX0_partAboveZero_29 rfl (lvG hl rfl) ?_
        refine va_mmin hx hb (hml.trans hl.1.symm) hown (hts _ w_537) (hts _ w_391) (hts _ w_31) (hts _ w_392) (Nat.le_of_ble_eq_true rfl) (Nat.le_of_ble_eq_true rfl) (Nat.le_of_ble_eq_true rfl) (Nat.le_of_ble_eq_true rfl) dX0_partAboveZero_30 ?_
        refine lv_ineg hx hb dX0_partAboveZero_33 ?_
        refine lv_istore_n (lv' := [(3, .int (-(if y < x then y else x))), (2, .int (if x < y then y else x)), (0, .int (x)), (1, .int (y))]) hx hb dX0_partAboveZero_34 rfl hl (by decide) rfl (fun ls hl => ?_)
        refine lv_iload_n hx hb dX0_partAboveZero_35 rfl (lvG hl rfl) ?_
        refine lv_iload_n hx hb dX0_partAboveZero_36 rfl (lvG hl rfl) ?_
        refine lv_imul hx hb dX0_partAboveZero_37 ?_
        refine lv_iload_n hx hb dX0_partAboveZero_38 rfl (lvG hl rfl) ?_
        refine lv_iload_n hx hb dX0_partAboveZero_39 rfl (lvG hl rfl) ?_
        refine lv_iadd hx hb dX0_partAboveZero_40 ?_
        refine k_callPI (k_goN (rest := []) hC hK (c_X4_quotient l g ((if x < y then y else x) * (if x < y then y else x)) ((if x < y then y else x) + (-(if y < x then y else x)))) hK.2.2.1 L_X0_X4_quotient (⟨⟨Nat.le_of_ble_eq_true rfl, Nat.le_of_ble_eq_true rfl⟩, ⟨rfl, rfl⟩, ⟨Nat.le_of_ble_eq_true rfl, Nat.le_of_ble_eq_true rfl⟩⟩) (trivial) rfl hl.1 rfl (Nat.le_of_ble_eq_true rfl) dX0_partAboveZero_41) ?_
        exact k_iret hC hr hlk dX0_partAboveZero_44 (by unfold q_pt; first | (rw [if_pos ⟨Int32.not_lt.mp zc1, Int32.not_lt.mp zc5⟩]; done) | (rw [if_neg (show ¬ (nI 0 ≤ x ∧ nI 0 ≤ y) by grind), if_pos (show x ≤ nI 0 ∧ y ≤ nI 0 from ⟨Int32.not_lt.mp zc13, Int32.not_lt.mp zc17⟩)]; done) | (rw [if_neg (show ¬ (nI 0 ≤ x ∧ nI 0 ≤ y) by grind), if_neg (show ¬ (x ≤ nI 0 ∧ y ≤ nI 0) by grind)]; done))
      · refine lv_iload_n hx hb dX0_partAboveZero_16 rfl (lvG hl rfl) ?_
        refine z_if_gt (tgt := 22) hC dX0_partAboveZero_17 (by decide) (fun zc17 => ?_) (fun zc17 => ?_)
        · refine lv_iload_n hx hb dX0_partAboveZero_22 rfl (lvG hl rfl) ?_
          refine lv_iload_n hx hb dX0_partAboveZero_23 rfl (lvG hl rfl) ?_
          refine va_mmax hx hb (hml.trans hl.1.symm) hown (hts _ w_536) (hts _ w_369) (hts _ w_31) (hts _ w_370) (Nat.le_of_ble_eq_true rfl) (Nat.le_of_ble_eq_true rfl) (Nat.le_of_ble_eq_true rfl) (Nat.le_of_ble_eq_true rfl) dX0_partAboveZero_24 ?_
          refine lv_istore_n (lv' := [(2, .int (if x < y then y else x)), (0, .int (x)), (1, .int (y))]) hx hb dX0_partAboveZero_27 rfl hl (by decide) rfl (fun ls hl => ?_)
          refine lv_iload_n hx hb dX0_partAboveZero_28 rfl (lvG hl rfl) ?_
          refine lv_iload_n hx hb dX0_partAboveZero_29 rfl (lvG hl rfl) ?_
          refine va_mmin hx hb (hml.trans hl.1.symm) hown (hts _ w_537) (hts _ w_391) (hts _ w_31) (hts _ w_392) (Nat.le_of_ble_eq_true rfl) (Nat.le_of_ble_eq_true rfl) (Nat.le_of_ble_eq_true rfl) (Nat.le_of_ble_eq_true rfl) dX0_partAboveZero_30 ?_
          refine lv_ineg hx hb dX0_partAboveZero_33 ?_
          refine lv_istore_n (lv' := [(3, .int (-(if y < x then y else x))), (2, .int (if x < y then y else x)), (0, .int (x)), (1, .int (y))]) hx hb dX0_partAboveZero_34 rfl hl (by decide) rfl (fun ls hl => ?_)
          refine lv_iload_n hx hb dX0_partAboveZero_35 rfl (lvG hl rfl) ?_
          refine lv_iload_n hx hb dX0_partAboveZero_36 rfl (lvG hl rfl) ?_
          refine lv_imul hx hb dX0_partAboveZero_37 ?_
          refine lv_iload_n hx hb dX0_partAboveZero_38 rfl (lvG hl rfl) ?_
          refine lv_iload_n hx hb dX0_partAboveZero_39 rfl (lvG hl rfl) ?_
          refine lv_iadd hx hb dX0_partAboveZero_40 ?_
          refine k_callPI (k_goN (rest := []) hC hK (c_X4_quotient l g ((if x < y then y else x) * (if x < y then y else x)) ((if x < y then y else x) + (-(if y < x then y else x)))) hK.2.2.1 L_X0_X4_quotient (⟨⟨Nat.le_of_ble_eq_true rfl, Nat.le_of_ble_eq_true rfl⟩, ⟨rfl, rfl⟩, ⟨Nat.le_of_ble_eq_true rfl, Nat.le_of_ble_eq_true rfl⟩⟩) (trivial) rfl hl.1 rfl (Nat.le_of_ble_eq_true rfl) dX0_partAboveZero_41) ?_
          exact k_iret hC hr hlk dX0_partAboveZero_44 (by unfold q_pt; first | (rw [if_pos ⟨Int32.not_lt.mp zc1, Int32.not_lt.mp zc5⟩]; done) | (rw [if_neg (show ¬ (nI 0 ≤ x ∧ nI 0 ≤ y) by grind), if_pos (show x ≤ nI 0 ∧ y ≤ nI 0 from ⟨Int32.not_lt.mp zc13, Int32.not_lt.mp zc17⟩)]; done) | (rw [if_neg (show ¬ (nI 0 ≤ x ∧ nI 0 ≤ y) by grind), if_neg (show ¬ (x ≤ nI 0 ∧ y ≤ nI 0) by grind)]; done))
        · refine lv_iconst (v := nI 0) hx hb dX0_partAboveZero_20 (by decide) ?_
          exact k_iret hC hr hlk dX0_partAboveZero_21 (by unfold q_pt; first | (rw [if_pos ⟨Int32.not_lt.mp zc1, Int32.not_lt.mp zc5⟩]; done) | (rw [if_neg (show ¬ (nI 0 ≤ x ∧ nI 0 ≤ y) by grind), if_pos (show x ≤ nI 0 ∧ y ≤ nI 0 from ⟨Int32.not_lt.mp zc13, Int32.not_lt.mp zc17⟩)]; done) | (rw [if_neg (show ¬ (nI 0 ≤ x ∧ nI 0 ≤ y) by grind), if_neg (show ¬ (x ≤ nI 0 ∧ y ≤ nI 0) by grind)]; done))
    · refine lv_iload_n hx hb dX0_partAboveZero_8 rfl (lvG hl rfl) ?_
      refine lv_iload_n hx hb dX0_partAboveZero_9 rfl (lvG hl rfl) ?_
      refine lv_iadd hx hb dX0_partAboveZero_10 ?_
      exact k_iret hC hr hlk dX0_partAboveZero_11 (by unfold q_pt; first | (rw [if_pos ⟨Int32.not_lt.mp zc1, Int32.not_lt.mp zc5⟩]; done) | (rw [if_neg (show ¬ (nI 0 ≤ x ∧ nI 0 ≤ y) by grind), if_pos (show x ≤ nI 0 ∧ y ≤ nI 0 from ⟨Int32.not_lt.mp zc13, Int32.not_lt.mp zc17⟩)]; done) | (rw [if_neg (show ¬ (nI 0 ≤ x ∧ nI 0 ≤ y) by grind), if_neg (show ¬ (x ≤ nI 0 ∧ y ≤ nI 0) by grind)]; done))
theorem L_X0_X0_partAboveZero : LnkS RX0 22 yX0_partAboveZero cX0_partAboveZero 4 (some .int) 2 := ⟨w_533, w_534, w_26, w_535, ⟨by decide +kernel, by decide +kernel⟩, by decide +kernel⟩
set_option maxHeartbeats 4000000 in
set_option maxRecDepth 100000 in
theorem c_X0_sumOfForwardAreas (l : Launch) (g : kG) (qc : Nat) (qo : Nat) (qi : Nat) (e0 : Int32) (sp : Int32) (p0 : Nat → Int32) : PI l yX0_sumOfForwardAreas cX0_sumOfForwardAreas 3 (some .int) (rr 3 66) [.ref qc] ((va_P g.1 kCl (wC g qc qo qi e0 sp p0))) g (q_fa p0 20) := by
  refine kOf (by decide) (Nat.le_of_ble_eq_true rfl) (fun p e s m below meth c ls hC hr hlk hin hK hP hl => ?_)
  have hx := hC.1
  have hb := hC.2.1
  have hml := hC.2.2.1
  have hown := hC.2.2.2.1
  have hts := hC.2.2.2.2
  have hl : lv_has ls 3 [(0, .ref qc)] := hl
  refine lv_iconst (v := nI 0) hx hb dX0_sumOfForwardAreas_0 (by decide) ?_
  refine lv_istore_n (lv' := [(1, .int (nI 0)), (0, .ref qc)]) hx hb dX0_sumOfForwardAreas_1 rfl hl (by decide) rfl (fun ls hl => ?_)
  refine lv_iconst (v := nI 0) hx hb dX0_sumOfForwardAreas_2 (by decide) ?_
  refine lv_istore_n (lv' := [(2, .int (nI 0)), (1, .int (nI 0)), (0, .ref qc)]) hx hb dX0_sumOfForwardAreas_3 rfl hl (by decide) rfl (fun ls hl => ?_)
  have key_1 : ∀ (k_2 : Nat) (i : Nat) (sm : Int32)  (hi : i ≤ 20) (hs : sm = q_fa p0 i) (hk_k_2 : 20 - i < k_2) (ls : Array Slot) (hl : lv_has ls 3 [(2, .int (nI i)), (1, .int (sm)), (0, .ref qc)]), W p l e (rr 3 66) s m [.ref qc].toArray below meth c s.heap [] 0 0 (MQ below (vp_Si (fun r => r = q_fa p0 20)) [.ref qc].toArray s 0 0 (fun _ => False)) (F0 m 4 ls ([])) := by
    intro k_2
    induction k_2 with
    | zero => intro i sm hi hs hk_k_2 ls hl; exact absurd hk_k_2 (Nat.not_lt_zero _)
    | succ k_2 ih_3 =>
      intro i sm hi hs hk_k_2 ls hl
      refine lv_iload_n hx hb dX0_sumOfForwardAreas_4 rfl (lvG hl rfl) ?_
      refine lv_bipush (v := nI 20) hx hb dX0_sumOfForwardAreas_5 (by decide) ?_
      refine n_icmp_ge (tgt := 34) hC dX0_sumOfForwardAreas_7 (by omega) (by omega) (by decide) (fun zc7 => ?_) (fun zc7 => ?_)
      · refine lv_iload_n hx hb dX0_sumOfForwardAreas_34 rfl (lvG hl rfl) ?_
        exact k_iret hC hr hlk dX0_sumOfForwardAreas_35 (by rw [hs, show i = 20 by omega])
      · refine lv_iload_n hx hb dX0_sumOfForwardAreas_10 rfl (lvG hl rfl) ?_
        refine lv_aload_n hx hb dX0_sumOfForwardAreas_11 rfl (lvG hl rfl) ?_
        refine lv_iload_n hx hb dX0_sumOfForwardAreas_12 rfl (lvG hl rfl) ?_
        refine k_callPI (k_goV (rest := [.int (sm)]) hC hK (c_X0_differenceAt l g qc qo qi e0 sp p0 i (by first | assumption | omega)) L_X0_X0_differenceAt (⟨⟨Nat.le_of_ble_eq_true rfl, Nat.le_of_ble_eq_true rfl⟩, ⟨rfl, rfl⟩, ⟨Nat.le_of_ble_eq_true rfl, Nat.le_of_ble_eq_true rfl⟩⟩) (k_recv hK hP 0 rfl rfl) (hP) rfl hl.1 rfl (Nat.le_of_ble_eq_true rfl) dX0_sumOfForwardAreas_13) ?_
        refine lv_aload_n hx hb dX0_sumOfForwardAreas_16 rfl (lvG hl rfl) ?_
        refine lv_iload_n hx hb dX0_sumOfForwardAreas_17 rfl (lvG hl rfl) ?_
        refine lv_iconst (v := nI 1) hx hb dX0_sumOfForwardAreas_18 (by decide) ?_
        refine n_iadd hC dX0_sumOfForwardAreas_19 ?_
        refine k_callPI (k_goV (rest := [.int (s_df p0 i), .int (sm)]) hC hK (c_X0_differenceAt l g qc qo qi e0 sp p0 (i + 1) (by first | assumption | omega)) L_X0_X0_differenceAt (⟨⟨Nat.le_of_ble_eq_true rfl, Nat.le_of_ble_eq_true rfl⟩, ⟨rfl, rfl⟩, ⟨Nat.le_of_ble_eq_true rfl, Nat.le_of_ble_eq_true rfl⟩⟩) (k_recv hK hP 0 rfl rfl) (hP) rfl hl.1 rfl (Nat.le_of_ble_eq_true rfl) dX0_sumOfForwardAreas_20) ?_
        refine k_callPI (k_goS (rest := [.int (sm)]) hC hK (c_X0_partAboveZero l g (s_df p0 i) (s_df p0 (i + 1))) L_X0_X0_partAboveZero (⟨⟨Nat.le_of_ble_eq_true rfl, Nat.le_of_ble_eq_true rfl⟩, ⟨rfl, rfl⟩, ⟨Nat.le_of_ble_eq_true rfl, Nat.le_of_ble_eq_true rfl⟩⟩) (trivial) rfl hl.1 rfl (Nat.le_of_ble_eq_true rfl) dX0_sumOfForwardAreas_23) ?_
        refine lv_iadd hx hb dX0_sumOfForwardAreas_26 ?_
        refine lv_istore_n (lv' := [(1, .int (sm + (q_pt (s_df p0 i) (s_df p0 (i + 1))))), (2, .int (nI i)), (0, .ref qc)]) hx hb dX0_sumOfForwardAreas_27 rfl hl (by decide) rfl (fun ls hl => ?_)
        refine n_iinc (lv' := [(2, .int (nI (i + 1))), (1, .int (sm + (q_pt (s_df p0 i) (s_df p0 (i + 1))))), (0, .ref qc)]) hC dX0_sumOfForwardAreas_28 hl rfl (by decide) rfl (fun ls hl => ?_)
        refine lv_goto (tgt := 4) hx hb dX0_sumOfForwardAreas_31 (by decide) ?_
        exact ih_3 (i + 1) (sm + (q_pt (s_df p0 i) (s_df p0 (i + 1))))  (by first | omega | assumption | rfl) (by rw [hs]; rfl) (by omega) ls (lv_sub hl [0, 1, 2] rfl)
  exact key_1 ((20 - 0) + 1) 0 (nI 0)  (by first | rfl | omega | assumption) (by first | rfl | omega | assumption) (Nat.lt_succ_self _) ls (lv_sub hl [0, 1, 2] rfl)
set_option maxHeartbeats 4000000 in
set_option maxRecDepth 100000 in
theorem c_X0_sumOfLoopAreas (l : Launch) (g : kG) (qc : Nat) (qo : Nat) (qi : Nat) (e0 : Int32) (sp : Int32) (p0 : Nat → Int32) : PI l yX0_sumOfLoopAreas cX0_sumOfLoopAreas 3 (some .int) (rr 3 66) [.ref qc] ((va_P g.1 kCl (wC g qc qo qi e0 sp p0))) g (q_lo p0 20) := by
  refine kOf (by decide) (Nat.le_of_ble_eq_true rfl) (fun p e s m below meth c ls hC hr hlk hin hK hP hl => ?_)
  have hx := hC.1
  have hb := hC.2.1
  have hml := hC.2.2.1
  have hown := hC.2.2.2.1
  have hts := hC.2.2.2.2
  have hl : lv_has ls 3 [(0, .ref qc)] := hl
  refine lv_iconst (v := nI 0) hx hb dX0_sumOfLoopAreas_0 (by decide) ?_
  refine lv_istore_n (lv' := [(1, .int (nI 0)), (0, .ref qc)]) hx hb dX0_sumOfLoopAreas_1 rfl hl (by decide) rfl (fun ls hl => ?_)
  refine lv_iconst (v := nI 0) hx hb dX0_sumOfLoopAreas_2 (by decide) ?_
  refine lv_istore_n (lv' := [(2, .int (nI 0)), (1, .int (nI 0)), (0, .ref qc)]) hx hb dX0_sumOfLoopAreas_3 rfl hl (by decide) rfl (fun ls hl => ?_)
  have key_1 : ∀ (k_2 : Nat) (i : Nat) (sm : Int32)  (hi : i ≤ 20) (hs : sm = q_lo p0 i) (hk_k_2 : 20 - i < k_2) (ls : Array Slot) (hl : lv_has ls 3 [(2, .int (nI i)), (1, .int (sm)), (0, .ref qc)]), W p l e (rr 3 66) s m [.ref qc].toArray below meth c s.heap [] 0 0 (MQ below (vp_Si (fun r => r = q_lo p0 20)) [.ref qc].toArray s 0 0 (fun _ => False)) (F0 m 4 ls ([])) := by
    intro k_2
    induction k_2 with
    | zero => intro i sm hi hs hk_k_2 ls hl; exact absurd hk_k_2 (Nat.not_lt_zero _)
    | succ k_2 ih_3 =>
      intro i sm hi hs hk_k_2 ls hl
      refine lv_iload_n hx hb dX0_sumOfLoopAreas_4 rfl (lvG hl rfl) ?_
      refine lv_bipush (v := nI 20) hx hb dX0_sumOfLoopAreas_5 (by decide) ?_
      refine n_icmp_ge (tgt := 36) hC dX0_sumOfLoopAreas_7 (by omega) (by omega) (by decide) (fun zc7 => ?_) (fun zc7 => ?_)
      · refine lv_iload_n hx hb dX0_sumOfLoopAreas_36 rfl (lvG hl rfl) ?_
        exact k_iret hC hr hlk dX0_sumOfLoopAreas_37 (by rw [hs, show i = 20 by omega])
      · refine lv_iload_n hx hb dX0_sumOfLoopAreas_10 rfl (lvG hl rfl) ?_
        refine lv_aload_n hx hb dX0_sumOfLoopAreas_11 rfl (lvG hl rfl) ?_
        refine lv_iload_n hx hb dX0_sumOfLoopAreas_12 rfl (lvG hl rfl) ?_
        refine k_callPI (k_goV (rest := [.int (sm)]) hC hK (c_X0_differenceAt l g qc qo qi e0 sp p0 i (by first | assumption | omega)) L_X0_X0_differenceAt (⟨⟨Nat.le_of_ble_eq_true rfl, Nat.le_of_ble_eq_true rfl⟩, ⟨rfl, rfl⟩, ⟨Nat.le_of_ble_eq_true rfl, Nat.le_of_ble_eq_true rfl⟩⟩) (k_recv hK hP 0 rfl rfl) (hP) rfl hl.1 rfl (Nat.le_of_ble_eq_true rfl) dX0_sumOfLoopAreas_13) ?_
        refine lv_ineg hx hb dX0_sumOfLoopAreas_16 ?_
        refine lv_aload_n hx hb dX0_sumOfLoopAreas_17 rfl (lvG hl rfl) ?_
        refine lv_iload_n hx hb dX0_sumOfLoopAreas_18 rfl (lvG hl rfl) ?_
        refine lv_iconst (v := nI 1) hx hb dX0_sumOfLoopAreas_19 (by decide) ?_
        refine n_iadd hC dX0_sumOfLoopAreas_20 ?_
        refine k_callPI (k_goV (rest := [.int (-(s_df p0 i)), .int (sm)]) hC hK (c_X0_differenceAt l g qc qo qi e0 sp p0 (i + 1) (by first | assumption | omega)) L_X0_X0_differenceAt (⟨⟨Nat.le_of_ble_eq_true rfl, Nat.le_of_ble_eq_true rfl⟩, ⟨rfl, rfl⟩, ⟨Nat.le_of_ble_eq_true rfl, Nat.le_of_ble_eq_true rfl⟩⟩) (k_recv hK hP 0 rfl rfl) (hP) rfl hl.1 rfl (Nat.le_of_ble_eq_true rfl) dX0_sumOfLoopAreas_21) ?_
        refine lv_ineg hx hb dX0_sumOfLoopAreas_24 ?_
        refine k_callPI (k_goS (rest := [.int (sm)]) hC hK (c_X0_partAboveZero l g (-(s_df p0 i)) (-(s_df p0 (i + 1)))) L_X0_X0_partAboveZero (⟨⟨Nat.le_of_ble_eq_true rfl, Nat.le_of_ble_eq_true rfl⟩, ⟨rfl, rfl⟩, ⟨Nat.le_of_ble_eq_true rfl, Nat.le_of_ble_eq_true rfl⟩⟩) (trivial) rfl hl.1 rfl (Nat.le_of_ble_eq_true rfl) dX0_sumOfLoopAreas_25) ?_
        refine lv_iadd hx hb dX0_sumOfLoopAreas_28 ?_
        refine lv_istore_n (lv' := [(1, .int (sm + (q_pt (-(s_df p0 i)) (-(s_df p0 (i + 1)))))), (2, .int (nI i)), (0, .ref qc)]) hx hb dX0_sumOfLoopAreas_29 rfl hl (by decide) rfl (fun ls hl => ?_)
        refine n_iinc (lv' := [(2, .int (nI (i + 1))), (1, .int (sm + (q_pt (-(s_df p0 i)) (-(s_df p0 (i + 1)))))), (0, .ref qc)]) hC dX0_sumOfLoopAreas_30 hl rfl (by decide) rfl (fun ls hl => ?_)
        refine lv_goto (tgt := 4) hx hb dX0_sumOfLoopAreas_33 (by decide) ?_
        exact ih_3 (i + 1) (sm + (q_pt (-(s_df p0 i)) (-(s_df p0 (i + 1)))))  (by first | omega | assumption | rfl) (by rw [hs]; rfl) (by omega) ls (lv_sub hl [0, 1, 2] rfl)
  exact key_1 ((20 - 0) + 1) 0 (nI 0)  (by first | rfl | omega | assumption) (by first | rfl | omega | assumption) (Nat.lt_succ_self _) ls (lv_sub hl [0, 1, 2] rfl)
theorem or_0 (v : Int32) : v ||| nI 0 = v := by
  apply Int32.toBitVec_inj.mp
  show v.toBitVec ||| (nI 0).toBitVec = v.toBitVec
  rw [show (nI 0).toBitVec = 0#32 from rfl, BitVec.or_zero]
set_option maxHeartbeats 4000000 in
set_option maxRecDepth 100000 in
theorem c_X0_stationsBelowZero (l : Launch) (g : kG) (qc : Nat) (qo : Nat) (qi : Nat) (e0 : Int32) (sp : Int32) (p0 : Nat → Int32) : PI l yX0_stationsBelowZero cX0_stationsBelowZero 3 (some .int) (rr 1 21) [.ref qc] ((va_P g.1 kCl (wC g qc qo qi e0 sp p0))) g (s_ls p0 21) := by
  refine kOf (by decide) (Nat.le_of_ble_eq_true rfl) (fun p e s m below meth c ls hC hr hlk hin hK hP hl => ?_)
  have hx := hC.1
  have hb := hC.2.1
  have hml := hC.2.2.1
  have hown := hC.2.2.2.1
  have hts := hC.2.2.2.2
  have hl : lv_has ls 3 [(0, .ref qc)] := hl
  refine lv_iconst (v := nI 0) hx hb dX0_stationsBelowZero_0 (by decide) ?_
  refine lv_istore_n (lv' := [(1, .int (nI 0)), (0, .ref qc)]) hx hb dX0_stationsBelowZero_1 rfl hl (by decide) rfl (fun ls hl => ?_)
  refine lv_iconst (v := nI 0) hx hb dX0_stationsBelowZero_2 (by decide) ?_
  refine lv_istore_n (lv' := [(2, .int (nI 0)), (1, .int (nI 0)), (0, .ref qc)]) hx hb dX0_stationsBelowZero_3 rfl hl (by decide) rfl (fun ls hl => ?_)
  have key_1 : ∀ (k_2 : Nat) (i : Nat) (sm : Int32)  (hi : i ≤ 21) (hs : sm = s_ls p0 i) (hk_k_2 : 21 - i < k_2) (ls : Array Slot) (hl : lv_has ls 3 [(2, .int (nI i)), (1, .int (sm)), (0, .ref qc)]), W p l e (rr 1 21) s m [.ref qc].toArray below meth c s.heap [] 0 0 (MQ below (vp_Si (fun r => r = s_ls p0 21)) [.ref qc].toArray s 0 0 (fun _ => False)) (F0 m 4 ls ([])) := by
    intro k_2
    induction k_2 with
    | zero => intro i sm hi hs hk_k_2 ls hl; exact absurd hk_k_2 (Nat.not_lt_zero _)
    | succ k_2 ih_3 =>
      intro i sm hi hs hk_k_2 ls hl
      refine lv_iload_n hx hb dX0_stationsBelowZero_4 rfl (lvG hl rfl) ?_
      refine lv_bipush (v := nI 21) hx hb dX0_stationsBelowZero_5 (by decide) ?_
      refine n_icmp_ge (tgt := 30) hC dX0_stationsBelowZero_7 (by omega) (by omega) (by decide) (fun zc7 => ?_) (fun zc7 => ?_)
      · refine lv_iload_n hx hb dX0_stationsBelowZero_30 rfl (lvG hl rfl) ?_
        exact k_iret hC hr hlk dX0_stationsBelowZero_31 (by rw [hs, show i = 21 by omega])
      · refine lv_aload_n hx hb dX0_stationsBelowZero_10 rfl (lvG hl rfl) ?_
        refine lv_iload_n hx hb dX0_stationsBelowZero_11 rfl (lvG hl rfl) ?_
        refine k_callPI (k_goV (rest := []) hC hK (c_X0_differenceAt l g qc qo qi e0 sp p0 i (by first | assumption | omega)) L_X0_X0_differenceAt (⟨⟨Nat.le_of_ble_eq_true rfl, Nat.le_of_ble_eq_true rfl⟩, ⟨rfl, rfl⟩, ⟨Nat.le_of_ble_eq_true rfl, Nat.le_of_ble_eq_true rfl⟩⟩) (k_recv hK hP 0 rfl rfl) (hP) rfl hl.1 rfl (Nat.le_of_ble_eq_true rfl) dX0_stationsBelowZero_12) ?_
        refine z_if_ge (tgt := 24) hC dX0_stationsBelowZero_15 (by decide) (fun zc15 => ?_) (fun zc15 => ?_)
        · refine n_iinc (lv' := [(2, .int (nI (i + 1))), (1, .int (sm)), (0, .ref qc)]) hC dX0_stationsBelowZero_24 hl rfl (by decide) rfl (fun ls hl => ?_)
          refine lv_goto (tgt := 4) hx hb dX0_stationsBelowZero_27 (by decide) ?_
          exact ih_3 (i + 1) sm  (by first | omega | assumption | rfl) (by unfold s_ls; rw [← hs]; first | (rw [if_neg (Int32.not_lt.mpr zc15), or_0]; done) | (rw [if_pos (Int32.not_le.mp zc15)]; done)) (by omega) ls (lv_sub hl [0, 1, 2] rfl)
        · refine lv_iload_n hx hb dX0_stationsBelowZero_18 rfl (lvG hl rfl) ?_
          refine lv_iconst (v := nI 1) hx hb dX0_stationsBelowZero_19 (by decide) ?_
          refine lv_iload_n hx hb dX0_stationsBelowZero_20 rfl (lvG hl rfl) ?_
          refine lv_ishl hx hb dX0_stationsBelowZero_21 ?_
          refine lv_ior hx hb dX0_stationsBelowZero_22 ?_
          refine lv_istore_n (lv' := [(1, .int (sm ||| ((nI 1) <<< ((nI i) &&& 31)))), (2, .int (nI i)), (0, .ref qc)]) hx hb dX0_stationsBelowZero_23 rfl hl (by decide) rfl (fun ls hl => ?_)
          refine n_iinc (lv' := [(2, .int (nI (i + 1))), (1, .int (sm ||| ((nI 1) <<< ((nI i) &&& 31)))), (0, .ref qc)]) hC dX0_stationsBelowZero_24 hl rfl (by decide) rfl (fun ls hl => ?_)
          refine lv_goto (tgt := 4) hx hb dX0_stationsBelowZero_27 (by decide) ?_
          exact ih_3 (i + 1) (sm ||| ((nI 1) <<< ((nI i) &&& 31)))  (by first | omega | assumption | rfl) (by unfold s_ls; rw [← hs]; first | (rw [if_neg (Int32.not_lt.mpr zc15), or_0]; done) | (rw [if_pos (Int32.not_le.mp zc15)]; done)) (by omega) ls (lv_sub hl [0, 1, 2] rfl)
  exact key_1 ((21 - 0) + 1) 0 (nI 0)  (by first | rfl | omega | assumption) (by first | rfl | omega | assumption) (Nat.lt_succ_self _) ls (lv_sub hl [0, 1, 2] rfl)
set_option maxHeartbeats 4000000 in
set_option maxRecDepth 100000 in
theorem c_X0_pressuresOf (l : Launch) (g : kG) (qc : Nat) (qo : Nat) (qi : Nat) (e0 : Int32) (sp : Int32) (p0 : Nat → Int32) (st : Int32) : PR l yX0_pressuresOf cX0_pressuresOf 2 (some (.array .int)) (rr 0 0) [.ref qc, .int (st)] ((va_P g.1 kCl (wC g qc qo qi e0 sp p0))) g (if st = nI 0 then qo else qi) := by
  refine kOf (by decide) (Nat.le_of_ble_eq_true rfl) (fun p e s m below meth c ls hC hr hlk hin hK hP hl => ?_)
  have hx := hC.1
  have hb := hC.2.1
  have hml := hC.2.2.1
  have hown := hC.2.2.2.1
  have hts := hC.2.2.2.2
  have hl : lv_has ls 2 [(0, .ref qc), (1, .int (st))] := hl
  refine lv_iload_n hx hb dX0_pressuresOf_0 rfl (lvG hl rfl) ?_
  refine z_if_ne (tgt := 11) hC dX0_pressuresOf_1 (by decide) (fun zc1 => ?_) (fun zc1 => ?_)
  · refine lv_aload_n hx hb dX0_pressuresOf_11 rfl (lvG hl rfl) ?_
    refine va_get (D := g.1) (ci := 0) (v := .ref qi) (C := RX0) (T := TX0) (N := 4) hx hb hts i_X0 hown hK.1 hP 0 rfl rfl 3 (by decide) (hts _ w_50) (fun _ h9 => h9) rfl dX0_pressuresOf_12 ?_
    exact k_aret hC hr (Or.inr ⟨_, rfl⟩) hlk dX0_pressuresOf_15 (by first | (rw [if_pos zc1]; done) | (rw [if_neg zc1]; done))
  · refine lv_aload_n hx hb dX0_pressuresOf_4 rfl (lvG hl rfl) ?_
    refine va_get (D := g.1) (ci := 0) (v := .ref qo) (C := RX0) (T := TX0) (N := 4) hx hb hts i_X0 hown hK.1 hP 0 rfl rfl 2 (by decide) (hts _ w_48) (fun _ h9 => h9) rfl dX0_pressuresOf_5 ?_
    refine lv_goto (tgt := 15) hx hb dX0_pressuresOf_8 (by decide) ?_
    exact k_aret hC hr (Or.inr ⟨_, rfl⟩) hlk dX0_pressuresOf_15 (by first | (rw [if_pos zc1]; done) | (rw [if_neg zc1]; done))
def k_sel (v0 v1 v2 v3 : Int32) (ev : Nat) : Int32 := if ev = 0 then v0 else if ev = 1 then v1 else if ev = 2 then v2 else v3
set_option maxHeartbeats 4000000 in
set_option maxRecDepth 100000 in
theorem c_X2_stationOf (l : Launch) (g : kG) (ye : Nat) (v0 : Int32) (v1 : Int32) (v2 : Int32) (v3 : Int32) (ev : Nat) (hev : ev < 4) : PI l yX2_stationOf cX2_stationOf 2 (some .int) (rr 0 0) [.ref ye, .int (nI ev)] ((va_P g.1 kCl [cE ye v0 v1 v2 v3])) g (k_sel v0 v1 v2 v3 ev) := by
  refine kOf (by decide) (Nat.le_of_ble_eq_true rfl) (fun p e s m below meth c ls hC hr hlk hin hK hP hl => ?_)
  have hx := hC.1
  have hb := hC.2.1
  have hml := hC.2.2.1
  have hown := hC.2.2.2.1
  have hts := hC.2.2.2.2
  have hl : lv_has ls 2 [(0, .ref ye), (1, .int (nI ev))] := hl
  rcases (show ev = 0 ∨ ev = 1 ∨ ev = 2 ∨ ev = 3 by omega) with q0 | q0 | q0 | q0
  · subst q0
    have hl : lv_has ls 2 [(0, .ref ye), (1, .int (nI 0))] := hl
    refine lv_iload_n hx hb dX2_stationOf_0 rfl (lvG hl rfl) ?_
    refine lv_tableIn (off := 27) (tgt := 28) hx hb dX2_stationOf_1 (by decide) (by decide) rfl (by decide) ?_
    refine lv_aload_n hx hb dX2_stationOf_28 rfl (lvG hl rfl) ?_
    refine va_get (D := g.1) (ci := 2) (v := .int (v0)) (C := RX2) (T := TX2) (N := 4) hx hb hts i_X2 hown hK.1 hP 0 rfl rfl 0 (by decide) (hts _ w_68) (fun _ h9 => h9) rfl dX2_stationOf_29 ?_
    exact k_iret hC hr hlk dX2_stationOf_32 (rfl)
  · subst q0
    have hl : lv_has ls 2 [(0, .ref ye), (1, .int (nI 1))] := hl
    refine lv_iload_n hx hb dX2_stationOf_0 rfl (lvG hl rfl) ?_
    refine lv_tableIn (off := 32) (tgt := 33) hx hb dX2_stationOf_1 (by decide) (by decide) rfl (by decide) ?_
    refine lv_aload_n hx hb dX2_stationOf_33 rfl (lvG hl rfl) ?_
    refine va_get (D := g.1) (ci := 2) (v := .int (v1)) (C := RX2) (T := TX2) (N := 4) hx hb hts i_X2 hown hK.1 hP 0 rfl rfl 1 (by decide) (hts _ w_70) (fun _ h9 => h9) rfl dX2_stationOf_34 ?_
    exact k_iret hC hr hlk dX2_stationOf_37 (rfl)
  · subst q0
    have hl : lv_has ls 2 [(0, .ref ye), (1, .int (nI 2))] := hl
    refine lv_iload_n hx hb dX2_stationOf_0 rfl (lvG hl rfl) ?_
    refine lv_tableIn (off := 37) (tgt := 38) hx hb dX2_stationOf_1 (by decide) (by decide) rfl (by decide) ?_
    refine lv_aload_n hx hb dX2_stationOf_38 rfl (lvG hl rfl) ?_
    refine va_get (D := g.1) (ci := 2) (v := .int (v2)) (C := RX2) (T := TX2) (N := 4) hx hb hts i_X2 hown hK.1 hP 0 rfl rfl 2 (by decide) (hts _ w_72) (fun _ h9 => h9) rfl dX2_stationOf_39 ?_
    exact k_iret hC hr hlk dX2_stationOf_42 (rfl)
  · subst q0
    have hl : lv_has ls 2 [(0, .ref ye), (1, .int (nI 3))] := hl
    refine lv_iload_n hx hb dX2_stationOf_0 rfl (lvG hl rfl) ?_
    refine lv_tableOut (tgt := 43) hx hb dX2_stationOf_1 (by decide) (by decide) ?_
    refine lv_aload_n hx hb dX2_stationOf_43 rfl (lvG hl rfl) ?_
    refine va_get (D := g.1) (ci := 2) (v := .int (v3)) (C := RX2) (T := TX2) (N := 4) hx hb hts i_X2 hown hK.1 hP 0 rfl rfl 3 (by decide) (hts _ w_74) (fun _ h9 => h9) rfl dX2_stationOf_44 ?_
    exact k_iret hC hr hlk dX2_stationOf_47 (rfl)
abbrev k_exi (v0 v1 v2 v3 : Int32) : Prop := (nI 0 ≤ v0 ∧ v0 ≤ nI 8) ∧ (nI 1 ≤ v1 ∧ v1 ≤ nI 19) ∧ (nI 2 ≤ v2 ∧ v2 ≤ nI 20) ∧ (nI 0 ≤ v3 ∧ v3 ≤ nI 19)
theorem L_X2_X4_isWithin : LnkN RX2 24 yX4_isWithin RX4 cX4_isWithin 3 (some .boolean) 3 := ⟨w_202, w_25, w_203, ⟨by decide +kernel, by decide +kernel⟩, by decide +kernel⟩
set_option maxHeartbeats 4000000 in
set_option maxRecDepth 100000 in
theorem c_X2_existAsIdealCard (l : Launch) (g : kG) (ye : Nat) (v0 : Int32) (v1 : Int32) (v2 : Int32) (v3 : Int32) : PI l yX2_existAsIdealCard cX2_existAsIdealCard 1 (some .boolean) (rr 1 22) [.ref ye] ((va_P g.1 kCl [cE ye v0 v1 v2 v3])) g (if k_exi v0 v1 v2 v3 then 1 else 0) := by
  refine kOf (by decide) (Nat.le_of_ble_eq_true rfl) (fun p e s m below meth c ls hC hr hlk hin hK hP hl => ?_)
  have hx := hC.1
  have hb := hC.2.1
  have hml := hC.2.2.1
  have hown := hC.2.2.2.1
  have hts := hC.2.2.2.2
  have hl : lv_has ls 1 [(0, .ref ye)] := hl
  refine lv_aload_n hx hb dX2_existAsIdealCard_0 rfl (lvG hl rfl) ?_
  refine va_get (D := g.1) (ci := 2) (v := .int (v0)) (C := RX2) (T := TX2) (N := 4) hx hb hts i_X2 hown hK.1 hP 0 rfl rfl 0 (by decide) (hts _ w_68) (fun _ h9 => h9) rfl dX2_existAsIdealCard_1 ?_
  refine lv_iconst (v := nI 0) hx hb dX2_existAsIdealCard_4 (by decide) ?_
  refine lv_bipush (v := nI 8) hx hb dX2_existAsIdealCard_5 (by decide) ?_
  refine k_callPI (k_goN (rest := []) hC hK (c_X4_isWithin l g v0 (nI 0) (nI 8)) hK.2.1 L_X2_X4_isWithin (⟨⟨Nat.le_of_ble_eq_true rfl, Nat.le_of_ble_eq_true rfl⟩, ⟨rfl, rfl⟩, ⟨Nat.le_of_ble_eq_true rfl, Nat.le_of_ble_eq_true rfl⟩⟩) (trivial) rfl hl.1 rfl (Nat.le_of_ble_eq_true rfl) dX2_existAsIdealCard_7) ?_
  refine b_ifeq (tgt := 56) hC dX2_existAsIdealCard_10 (by decide) (fun zc10 => ?_) (fun zc10 => ?_)
  · refine lv_iconst (v := nI 0) hx hb dX2_existAsIdealCard_56 (by decide) ?_
    exact k_zret hC hr hlk dX2_existAsIdealCard_57 k_nar0 (by first | rfl | grind [] | grind [nI])
  · refine lv_aload_n hx hb dX2_existAsIdealCard_13 rfl (lvG hl rfl) ?_
    refine va_get (D := g.1) (ci := 2) (v := .int (v1)) (C := RX2) (T := TX2) (N := 4) hx hb hts i_X2 hown hK.1 hP 0 rfl rfl 1 (by decide) (hts _ w_70) (fun _ h9 => h9) rfl dX2_existAsIdealCard_14 ?_
    refine lv_iconst (v := nI 1) hx hb dX2_existAsIdealCard_17 (by decide) ?_
    refine lv_bipush (v := nI 19) hx hb dX2_existAsIdealCard_18 (by decide) ?_
    refine k_callPI (k_goN (rest := []) hC hK (c_X4_isWithin l g v1 (nI 1) (nI 19)) hK.2.1 L_X2_X4_isWithin (⟨⟨Nat.le_of_ble_eq_true rfl, Nat.le_of_ble_eq_true rfl⟩, ⟨rfl, rfl⟩, ⟨Nat.le_of_ble_eq_true rfl, Nat.le_of_ble_eq_true rfl⟩⟩) (trivial) rfl hl.1 rfl (Nat.le_of_ble_eq_true rfl) dX2_existAsIdealCard_20) ?_
    refine b_ifeq (tgt := 56) hC dX2_existAsIdealCard_23 (by decide) (fun zc23 => ?_) (fun zc23 => ?_)
    · refine lv_iconst (v := nI 0) hx hb dX2_existAsIdealCard_56 (by decide) ?_
      exact k_zret hC hr hlk dX2_existAsIdealCard_57 k_nar0 (by first | rfl | grind [] | grind [nI])
    · refine lv_aload_n hx hb dX2_existAsIdealCard_26 rfl (lvG hl rfl) ?_
      refine va_get (D := g.1) (ci := 2) (v := .int (v2)) (C := RX2) (T := TX2) (N := 4) hx hb hts i_X2 hown hK.1 hP 0 rfl rfl 2 (by decide) (hts _ w_72) (fun _ h9 => h9) rfl dX2_existAsIdealCard_27 ?_
      refine lv_iconst (v := nI 2) hx hb dX2_existAsIdealCard_30 (by decide) ?_
      refine lv_bipush (v := nI 20) hx hb dX2_existAsIdealCard_31 (by decide) ?_
      refine k_callPI (k_goN (rest := []) hC hK (c_X4_isWithin l g v2 (nI 2) (nI 20)) hK.2.1 L_X2_X4_isWithin (⟨⟨Nat.le_of_ble_eq_true rfl, Nat.le_of_ble_eq_true rfl⟩, ⟨rfl, rfl⟩, ⟨Nat.le_of_ble_eq_true rfl, Nat.le_of_ble_eq_true rfl⟩⟩) (trivial) rfl hl.1 rfl (Nat.le_of_ble_eq_true rfl) dX2_existAsIdealCard_33) ?_
      refine b_ifeq (tgt := 56) hC dX2_existAsIdealCard_36 (by decide) (fun zc36 => ?_) (fun zc36 => ?_)
      · refine lv_iconst (v := nI 0) hx hb dX2_existAsIdealCard_56 (by decide) ?_
        exact k_zret hC hr hlk dX2_existAsIdealCard_57 k_nar0 (by first | rfl | grind [] | grind [nI])
      · refine lv_aload_n hx hb dX2_existAsIdealCard_39 rfl (lvG hl rfl) ?_
        refine va_get (D := g.1) (ci := 2) (v := .int (v3)) (C := RX2) (T := TX2) (N := 4) hx hb hts i_X2 hown hK.1 hP 0 rfl rfl 3 (by decide) (hts _ w_74) (fun _ h9 => h9) rfl dX2_existAsIdealCard_40 ?_
        refine lv_iconst (v := nI 0) hx hb dX2_existAsIdealCard_43 (by decide) ?_
        refine lv_bipush (v := nI 19) hx hb dX2_existAsIdealCard_44 (by decide) ?_
        refine k_callPI (k_goN (rest := []) hC hK (c_X4_isWithin l g v3 (nI 0) (nI 19)) hK.2.1 L_X2_X4_isWithin (⟨⟨Nat.le_of_ble_eq_true rfl, Nat.le_of_ble_eq_true rfl⟩, ⟨rfl, rfl⟩, ⟨Nat.le_of_ble_eq_true rfl, Nat.le_of_ble_eq_true rfl⟩⟩) (trivial) rfl hl.1 rfl (Nat.le_of_ble_eq_true rfl) dX2_existAsIdealCard_46) ?_
        refine b_ifeq (tgt := 56) hC dX2_existAsIdealCard_49 (by decide) (fun zc49 => ?_) (fun zc49 => ?_)
        · refine lv_iconst (v := nI 0) hx hb dX2_existAsIdealCard_56 (by decide) ?_
          exact k_zret hC hr hlk dX2_existAsIdealCard_57 k_nar0 (by first | rfl | grind [] | grind [nI])
        · refine lv_iconst (v := nI 1) hx hb dX2_existAsIdealCard_52 (by decide) ?_
          refine lv_goto (tgt := 57) hx hb dX2_existAsIdealCard_53 (by decide) ?_
          exact k_zret hC hr hlk dX2_existAsIdealCard_57 k_nar1 (by first | rfl | grind [] | grind [nI])
set_option maxHeartbeats 4000000 in
set_option maxRecDepth 100000 in
theorem c_X3_pistonAreaOf (l : Launch) (g : kG) (a : Nat → Nat) (f : Nat → Int32) (en : Int32) : PI l yX3_pistonAreaOf cX3_pistonAreaOf 2 (some .int) (rr 0 0) [.ref (a 0), .int (en)] ((va_P g.1 kCl [cS a f])) g (if en = nI 0 then f 1 else f 2) := by
  refine kOf (by decide) (Nat.le_of_ble_eq_true rfl) (fun p e s m below meth c ls hC hr hlk hin hK hP hl => ?_)
  have hx := hC.1
  have hb := hC.2.1
  have hml := hC.2.2.1
  have hown := hC.2.2.2.1
  have hts := hC.2.2.2.2
  have hl : lv_has ls 2 [(0, .ref (a 0)), (1, .int (en))] := hl
  refine lv_iload_n hx hb dX3_pistonAreaOf_0 rfl (lvG hl rfl) ?_
  refine z_if_ne (tgt := 11) hC dX3_pistonAreaOf_1 (by decide) (fun zc1 => ?_) (fun zc1 => ?_)
  · refine lv_aload_n hx hb dX3_pistonAreaOf_11 rfl (lvG hl rfl) ?_
    refine va_get (D := g.1) (ci := 3) (v := .int (f 2)) (C := RX3) (T := TX3) (N := 13) hx hb hts i_X3 hown hK.1 hP 0 rfl rfl 2 (by decide) (hts _ w_126) (fun _ h9 => h9) rfl dX3_pistonAreaOf_12 ?_
    exact k_iret hC hr hlk dX3_pistonAreaOf_15 (by first | (rw [if_pos zc1]; done) | (rw [if_neg zc1]; done))
  · refine lv_aload_n hx hb dX3_pistonAreaOf_4 rfl (lvG hl rfl) ?_
    refine va_get (D := g.1) (ci := 3) (v := .int (f 1)) (C := RX3) (T := TX3) (N := 13) hx hb hts i_X3 hown hK.1 hP 0 rfl rfl 1 (by decide) (hts _ w_124) (fun _ h9 => h9) rfl dX3_pistonAreaOf_5 ?_
    refine lv_goto (tgt := 15) hx hb dX3_pistonAreaOf_8 (by decide) ?_
    exact k_iret hC hr hlk dX3_pistonAreaOf_15 (by first | (rw [if_pos zc1]; done) | (rw [if_neg zc1]; done))
set_option maxHeartbeats 4000000 in
set_option maxRecDepth 100000 in
theorem c_X3_valvesOf (l : Launch) (g : kG) (a : Nat → Nat) (f : Nat → Int32) (en : Int32) : PR l yX3_valvesOf cX3_valvesOf 2 (some (.object "IndicatorDiagram$Events")) (rr 0 0) [.ref (a 0), .int (en)] ((va_P g.1 kCl [cS a f])) g (if en = nI 0 then a 1 else a 2) := by
  refine kOf (by decide) (Nat.le_of_ble_eq_true rfl) (fun p e s m below meth c ls hC hr hlk hin hK hP hl => ?_)
  have hx := hC.1
  have hb := hC.2.1
  have hml := hC.2.2.1
  have hown := hC.2.2.2.1
  have hts := hC.2.2.2.2
  have hl : lv_has ls 2 [(0, .ref (a 0)), (1, .int (en))] := hl
  refine lv_iload_n hx hb dX3_valvesOf_0 rfl (lvG hl rfl) ?_
  refine z_if_ne (tgt := 11) hC dX3_valvesOf_1 (by decide) (fun zc1 => ?_) (fun zc1 => ?_)
  · refine lv_aload_n hx hb dX3_valvesOf_11 rfl (lvG hl rfl) ?_
    refine va_get (D := g.1) (ci := 3) (v := .ref (a 2)) (C := RX3) (T := TX3) (N := 13) hx hb hts i_X3 hown hK.1 hP 0 rfl rfl 9 (by decide) (hts _ w_140) (fun _ h9 => h9) rfl dX3_valvesOf_12 ?_
    exact k_aret hC hr (Or.inl ⟨_, rfl⟩) hlk dX3_valvesOf_15 (by first | (rw [if_pos zc1]; done) | (rw [if_neg zc1]; done))
  · refine lv_aload_n hx hb dX3_valvesOf_4 rfl (lvG hl rfl) ?_
    refine va_get (D := g.1) (ci := 3) (v := .ref (a 1)) (C := RX3) (T := TX3) (N := 13) hx hb hts i_X3 hown hK.1 hP 0 rfl rfl 8 (by decide) (hts _ w_138) (fun _ h9 => h9) rfl dX3_valvesOf_5 ?_
    refine lv_goto (tgt := 15) hx hb dX3_valvesOf_8 (by decide) ?_
    exact k_aret hC hr (Or.inl ⟨_, rfl⟩) hlk dX3_valvesOf_15 (by first | (rw [if_pos zc1]; done) | (rw [if_neg zc1]; done))
set_option maxHeartbeats 4000000 in
set_option maxRecDepth 100000 in
theorem c_X3_volumeAt (l : Launch) (g : kG) (a : Nat → Nat) (f : Nat → Int32) (st : Int32) : PI l yX3_volumeAt cX3_volumeAt 2 (some .int) (rr 0 0) [.ref (a 0), .int (st)] ((va_P g.1 kCl [cS a f])) g (f 0 + st) := by
  refine kOf (by decide) (Nat.le_of_ble_eq_true rfl) (fun p e s m below meth c ls hC hr hlk hin hK hP hl => ?_)
  have hx := hC.1
  have hb := hC.2.1
  have hml := hC.2.2.1
  have hown := hC.2.2.2.1
  have hts := hC.2.2.2.2
  have hl : lv_has ls 2 [(0, .ref (a 0)), (1, .int (st))] := hl
  refine lv_aload_n hx hb dX3_volumeAt_0 rfl (lvG hl rfl) ?_
  refine va_get (D := g.1) (ci := 3) (v := .int (f 0)) (C := RX3) (T := TX3) (N := 13) hx hb hts i_X3 hown hK.1 hP 0 rfl rfl 0 (by decide) (hts _ w_122) (fun _ h9 => h9) rfl dX3_volumeAt_1 ?_
  refine lv_iload_n hx hb dX3_volumeAt_4 rfl (lvG hl rfl) ?_
  refine lv_iadd hx hb dX3_volumeAt_5 ?_
  exact k_iret hC hr hlk dX3_volumeAt_6 (by first | rfl | grind [] | grind [nI])
