/-- the nearest cut-off so far: its distance and itself -/
def k_nc (va vr c0 : Int32) (D : Int32 → Int64) : Nat → Int64 × Int32
  | 0 => ((9223372036854775807 : Int64), c0)
  | j + 1 => if va < nI (j + 1) ∧ nI (j + 1) < vr ∧ D (nI (j + 1)) < (k_nc va vr c0 D j).1 then (D (nI (j + 1)), nI (j + 1)) else k_nc va vr c0 D j
theorem kn_0 {va vr c0 : Int32} {D : Int32 → Int64} : k_nc va vr c0 D 0 = ((9223372036854775807 : Int64), c0) := rfl
theorem kn_t1 {va vr c0 : Int32} {D : Int32 → Int64} {j : Nat} {zl : Int64} (e : zl = (k_nc va vr c0 D j).1) (h1 : va < nI (j + 1)) (h2 : nI (j + 1) < vr) (h3 : D (nI (j + 1)) < zl) : nI (j + 1) = (k_nc va vr c0 D (j + 1)).2 ∧ D (nI (j + 1)) = (k_nc va vr c0 D (j + 1)).1 := by
  subst e
  have e1 : k_nc va vr c0 D (j + 1) = (D (nI (j + 1)), nI (j + 1)) := by conv => { lhs; unfold k_nc }; rw [if_pos ⟨h1, h2, h3⟩]
  rw [e1]
  exact ⟨rfl, rfl⟩
theorem kn_f1 {va vr c0 : Int32} {D : Int32 → Int64} {j : Nat} {zl : Int64} {bs : Int32} (eb : bs = (k_nc va vr c0 D j).2) (e : zl = (k_nc va vr c0 D j).1) (h : ¬ (va < nI (j + 1) ∧ nI (j + 1) < vr ∧ D (nI (j + 1)) < zl)) : bs = (k_nc va vr c0 D (j + 1)).2 ∧ zl = (k_nc va vr c0 D (j + 1)).1 := by
  subst e
  have e1 : k_nc va vr c0 D (j + 1) = k_nc va vr c0 D j := by conv => { lhs; unfold k_nc }; rw [if_neg h]
  rw [e1]
  exact ⟨eb, rfl⟩
set_option maxHeartbeats 4000000 in
set_option maxRecDepth 100000 in
theorem c_X4_nearest0 (l : Launch) (g : kG) (x : Nat → Nat) (a : Nat → Nat) (n : Nat) (f : Nat → Int32) (cn : Nat) (rf : Nat → Option Nat) (hc : f 61 = nI cn) (hcn : cn ≤ 10) (zw : Int64) (D : Int32 → Int64) (hDd : ∀ co, D co = s_abl ((s_ar (k_ic f 8 co) 20).toInt64 - zw)) : MI l yX4_nearestCutOff cX4_nearestCutOff 15 (some .int) (rr 5 117) [.ref (x 0), .int (nI 0), .long (zw), .int (nI 0)] ((fun H => XB g x a n f cn rf H ∧ XS g x H)) g 0 0 (SC x) (fun r H1 => r = (k_nc (f 8) (f 10) (f 9) D 18).2 ∧ XS g x H1) := by
  refine kOf (by decide) (Nat.le_of_ble_eq_true rfl) (fun p e s m below meth c ls hC hr hlk hin hK hP hl => ?_)
  have hx := hC.1
  have hb := hC.2.1
  have hml := hC.2.2.1
  have hown := hC.2.2.2.1
  have hts := hC.2.2.2.2
  have hl : lv_has ls 15 [(0, .ref (x 0)), (1, .int (nI 0)), (2, .long (zw)), (4, .int (nI 0))] := hl
  obtain ⟨hB, ⟨tr, te, fo, so, hT, hD⟩⟩ := hP
  have hS : va_S (SC x) s.heap s.heap [] := va_S.rf
  refine lv_aload_n hx hb dX4_nearestCutOff_0 rfl (lvG hl rfl) ?_
  refine va_get (D := g.1) (ci := 4) (v := .ref (a 0)) (C := RX4) (T := TX4) (N := 7) hx hb hts i_X4 hown hK.1 hB.1 0 rfl rfl 0 (by decide) (hts _ w_175) (fun _ h9 => h9) rfl dX4_nearestCutOff_1 ?_
  refine lv_iload_n hx hb dX4_nearestCutOff_4 rfl (lvG hl rfl) ?_
  refine k_callPR (k_goV (rest := []) hC hK (c_X3_valvesOf l g a f (nI 0)) L_X4_X3_valvesOf (⟨⟨Nat.le_of_ble_eq_true rfl, Nat.le_of_ble_eq_true rfl⟩, ⟨rfl, rfl⟩, ⟨Nat.le_of_ble_eq_true rfl, Nat.le_of_ble_eq_true rfl⟩⟩) (k_recv hK hB.1 1 rfl rfl) ((hB.1.sub [1] rfl)) rfl hl.1 rfl (Nat.le_of_ble_eq_true rfl) dX4_nearestCutOff_5) ?_
  rw [if_pos (show nI 0 = nI 0 from rfl)]
  refine lv_astore (lv' := [(5, .ref (a 1)), (0, .ref (x 0)), (1, .int (nI 0)), (2, .long (zw)), (4, .int (nI 0))]) hx hb dX4_nearestCutOff_8 hl (by decide) rfl (fun ls hl => ?_)
  refine lv_aload hx hb dX4_nearestCutOff_10 (lvG hl rfl) ?_
  refine va_get (D := g.1) (ci := 2) (v := .int (f 9)) (C := RX2) (T := TX2) (N := 4) hx hb hts i_X2 hown hK.1 hB.1 2 rfl rfl 1 (by decide) (hts _ w_71) (fun _ h9 => h9) rfl dX4_nearestCutOff_12 ?_
  refine lv_istore (lv' := [(6, .int (f 9)), (5, .ref (a 1)), (0, .ref (x 0)), (1, .int (nI 0)), (2, .long (zw)), (4, .int (nI 0))]) hx hb dX4_nearestCutOff_15 hl (by decide) rfl (fun ls hl => ?_)
  refine lv_ldc2 (v := (9223372036854775807 : Int64)) hx hb hown (hts _ w_521) dX4_nearestCutOff_17 ?_
  refine lv_lstore (lv' := [(7, .long ((9223372036854775807 : Int64))), (6, .int (f 9)), (5, .ref (a 1)), (0, .ref (x 0)), (1, .int (nI 0)), (2, .long (zw)), (4, .int (nI 0))]) hx hb dX4_nearestCutOff_20 hl (by decide) rfl (fun ls hl => ?_)
  refine lv_iconst (v := nI 1) hx hb dX4_nearestCutOff_22 (by decide) ?_
  refine lv_istore (lv' := [(9, .int (nI 1)), (7, .long ((9223372036854775807 : Int64))), (6, .int (f 9)), (5, .ref (a 1)), (0, .ref (x 0)), (1, .int (nI 0)), (2, .long (zw)), (4, .int (nI 0))]) hx hb dX4_nearestCutOff_23 hl (by decide) rfl (fun ls hl => ?_)
  have key_1 : ∀ (k_2 : Nat) (zz : Nat) (zl : Int64) (bs : Int32) (tr9 te9 fo9 so9 : Nat → Int32) (H9 : Heap) (locs9 : List Loc) (hT9 : va_P g.1 kCl [cI g (x 3) 21 tr9, cI g (x 4) 21 ((fun k => tr9 (21 + k))), (x 5, .inr (2, [.int (te9 0), .int (te9 1), .int (te9 2), .int (te9 3)])), (x 6, .inr (2, [.int (fo9 0), .int (fo9 1), .int (fo9 2), .int (fo9 3)])), cI g (x 7) 10 so9] H9) (hD9 : va_D (SC x) [cI g (x 3) 21 tr9, cI g (x 4) 21 ((fun k => tr9 (21 + k))), (x 5, .inr (2, [.int (te9 0), .int (te9 1), .int (te9 2), .int (te9 3)])), (x 6, .inr (2, [.int (fo9 0), .int (fo9 1), .int (fo9 2), .int (fo9 3)])), cI g (x 7) 10 so9]) (hS9 : va_S (SC x) s.heap H9 locs9) (hz : zz ≤ 18) (hbs : bs = (k_nc (f 8) (f 10) (f 9) D zz).2) (hzl : zl = (k_nc (f 8) (f 10) (f 9) D zz).1) (hk_k_2 : 18 - zz < k_2) (ls : Array Slot) (hl : lv_has ls 15 [(9, .int (nI (zz + 1))), (7, .long (zl)), (6, .int (bs)), (5, .ref (a 1)), (0, .ref (x 0)), (1, .int (nI 0)), (2, .long (zw)), (4, .int (nI 0))]), W p l e (rr 5 117) s m [.ref (x 0), .int (nI 0), .long (zw), .int (nI 0)].toArray below meth c H9 locs9 0 0 (MQ below (qI (SC x) (fun r H1 => r = (k_nc (f 8) (f 10) (f 9) D 18).2 ∧ XS g x H1)) [.ref (x 0), .int (nI 0), .long (zw), .int (nI 0)].toArray s 0 0 (SC x)) (F0 m 25 ls ([])) := by
    intro k_2
    induction k_2 with
    | zero => intro zz zl bs tr9 te9 fo9 so9 H9 locs9 hT9 hD9 hS9 hz hbs hzl hk_k_2 ls hl; exact absurd hk_k_2 (Nat.not_lt_zero _)
    | succ k_2 ih_3 =>
      intro zz zl bs tr9 te9 fo9 so9 H9 locs9 hT9 hD9 hS9 hz hbs hzl hk_k_2 ls hl
      have hB9 : XB g x a n f cn rf H9 := hB.at hS9
      refine lv_iload hx hb dX4_nearestCutOff_25 (lvG hl rfl) ?_
      refine lv_bipush (v := nI 18) hx hb dX4_nearestCutOff_27 (by decide) ?_
      refine n_icmp_gt (tgt := 114) hC dX4_nearestCutOff_29 (by omega) (by omega) (by decide) (fun zc29 => ?_) (fun zc29 => ?_)
      · refine lv_iload hx hb dX4_nearestCutOff_114 (lvG hl rfl) ?_
        exact k_iretM hC hr hlk hS9 dX4_nearestCutOff_116 (⟨by rw [hbs, show zz = 18 by omega], XTS ⟨hT9, hD9⟩⟩)
      · refine lv_iload hx hb dX4_nearestCutOff_32 (lvG hl rfl) ?_
        refine lv_aload hx hb dX4_nearestCutOff_34 (lvG hl rfl) ?_
        refine va_get (D := g.1) (ci := 2) (v := .int (f 8)) (C := RX2) (T := TX2) (N := 4) hx hb hts i_X2 hown hK.1 hB9.1 2 rfl rfl 0 (by decide) (hts _ w_69) (fun _ h9 => h9) rfl dX4_nearestCutOff_36 ?_
        refine lv_icmp_le (tgt := 108) hx hb dX4_nearestCutOff_39 (by decide) (fun zc39 => ?_) (fun zc39 => ?_)
        · refine n_iinc (lv' := [(9, .int (nI (zz + 1 + 1))), (7, .long (zl)), (6, .int (bs)), (5, .ref (a 1)), (0, .ref (x 0)), (1, .int (nI 0)), (2, .long (zw)), (4, .int (nI 0))]) hC dX4_nearestCutOff_108 hl rfl (by decide) rfl (fun ls hl => ?_)
          refine lv_goto (tgt := 25) hx hb dX4_nearestCutOff_111 (by decide) ?_
          exact ih_3 (zz + 1) zl bs tr9 te9 fo9 so9 _ _ hT9 hD9 hS9 (by first | omega | assumption | rfl) (by first | exact (kn_t1 hzl (Int32.not_le.mp zc39) (Int32.not_le.mp zc49) (Int64.not_le.mp zc96)).1 | exact (kn_f1 hbs hzl (fun q => absurd q.1 (Int32.not_lt.mpr zc39))).1 | exact (kn_f1 hbs hzl (fun q => absurd q.2.1 (Int32.not_lt.mpr zc49))).1 | exact (kn_f1 hbs hzl (fun q => absurd q.2.2 (Int64.not_lt.mpr zc96))).1) (by first | exact (kn_t1 hzl (Int32.not_le.mp zc39) (Int32.not_le.mp zc49) (Int64.not_le.mp zc96)).2 | exact (kn_f1 hbs hzl (fun q => absurd q.1 (Int32.not_lt.mpr zc39))).2 | exact (kn_f1 hbs hzl (fun q => absurd q.2.1 (Int32.not_lt.mpr zc49))).2 | exact (kn_f1 hbs hzl (fun q => absurd q.2.2 (Int64.not_lt.mpr zc96))).2) (by omega) ls (lv_sub hl [0, 1, 2, 3, 4, 5, 6, 7] rfl)
        · refine lv_iload hx hb dX4_nearestCutOff_42 (lvG hl rfl) ?_
          refine lv_aload hx hb dX4_nearestCutOff_44 (lvG hl rfl) ?_
          refine va_get (D := g.1) (ci := 2) (v := .int (f 10)) (C := RX2) (T := TX2) (N := 4) hx hb hts i_X2 hown hK.1 hB9.1 2 rfl rfl 2 (by decide) (hts _ w_73) (fun _ h9 => h9) rfl dX4_nearestCutOff_46 ?_
          refine lv_icmp_ge (tgt := 108) hx hb dX4_nearestCutOff_49 (by decide) (fun zc49 => ?_) (fun zc49 => ?_)
          · refine n_iinc (lv' := [(9, .int (nI (zz + 1 + 1))), (7, .long (zl)), (6, .int (bs)), (5, .ref (a 1)), (0, .ref (x 0)), (1, .int (nI 0)), (2, .long (zw)), (4, .int (nI 0))]) hC dX4_nearestCutOff_108 hl rfl (by decide) rfl (fun ls hl => ?_)
            refine lv_goto (tgt := 25) hx hb dX4_nearestCutOff_111 (by decide) ?_
            exact ih_3 (zz + 1) zl bs tr9 te9 fo9 so9 _ _ hT9 hD9 hS9 (by first | omega | assumption | rfl) (by first | exact (kn_t1 hzl (Int32.not_le.mp zc39) (Int32.not_le.mp zc49) (Int64.not_le.mp zc96)).1 | exact (kn_f1 hbs hzl (fun q => absurd q.1 (Int32.not_lt.mpr zc39))).1 | exact (kn_f1 hbs hzl (fun q => absurd q.2.1 (Int32.not_lt.mpr zc49))).1 | exact (kn_f1 hbs hzl (fun q => absurd q.2.2 (Int64.not_lt.mpr zc96))).1) (by first | exact (kn_t1 hzl (Int32.not_le.mp zc39) (Int32.not_le.mp zc49) (Int64.not_le.mp zc96)).2 | exact (kn_f1 hbs hzl (fun q => absurd q.1 (Int32.not_lt.mpr zc39))).2 | exact (kn_f1 hbs hzl (fun q => absurd q.2.1 (Int32.not_lt.mpr zc49))).2 | exact (kn_f1 hbs hzl (fun q => absurd q.2.2 (Int64.not_lt.mpr zc96))).2) (by omega) ls (lv_sub hl [0, 1, 2, 3, 4, 5, 6, 7] rfl)
          · refine lv_aload_n hx hb dX4_nearestCutOff_52 rfl (lvG hl rfl) ?_
            refine lv_iload_n hx hb dX4_nearestCutOff_53 rfl (lvG hl rfl) ?_
            refine lv_iload hx hb dX4_nearestCutOff_54 (lvG hl rfl) ?_
            refine k_callMI0 (k_goV (rest := []) hC hK (c_X4_areaWith0 l g x a n f cn rf (nI (zz + 1))) L_X4_X4_areaWithCutOff (⟨⟨Nat.le_of_ble_eq_true rfl, Nat.le_of_ble_eq_true rfl⟩, ⟨rfl, rfl⟩, ⟨Nat.le_of_ble_eq_true rfl, Nat.le_of_ble_eq_true rfl⟩⟩) (k_recv hK hB9.1 0 rfl rfl) (⟨hB9, ⟨tr9, te9, fo9, so9, hT9, hD9⟩⟩) rfl hl.1 rfl (Nat.le_of_ble_eq_true rfl) dX4_nearestCutOff_56) hS9 (fun _ h => h) (fun r_ H_4 locs_5 hQ_6 hz_ hk_8 hS_7 => ?_)
            obtain ⟨e_9, tr_12, te_13, fo_14, so_15, hT_10, hD_11⟩ := hQ_6
            subst e_9
            have hB_16 : XB g x a n f cn rf H_4 := hB.at hS_7
            refine lv_istore (lv' := [(10, .int ((s_ar (k_ic f 8 (nI (zz + 1))) 20))), (9, .int (nI (zz + 1))), (7, .long (zl)), (6, .int (bs)), (5, .ref (a 1)), (0, .ref (x 0)), (1, .int (nI 0)), (2, .long (zw)), (4, .int (nI 0))]) hx hb dX4_nearestCutOff_59 hl (by decide) rfl (fun ls hl => ?_)
            refine lv_iload hx hb dX4_nearestCutOff_61 (lvG hl rfl) ?_
            refine n_if_eq (tgt := 78) hC dX4_nearestCutOff_63 (by decide) (by decide) (fun _ => ?_) (fun c => absurd c (by decide))
            refine lv_iload hx hb dX4_nearestCutOff_78 (lvG hl rfl) ?_
            refine lv_i2l (v := ((s_ar (k_ic f 8 (nI (zz + 1))) 20)).toInt64) hx hb dX4_nearestCutOff_80 rfl ?_
            refine lv_lstore (lv' := [(11, .long (((s_ar (k_ic f 8 (nI (zz + 1))) 20)).toInt64)), (10, .int ((s_ar (k_ic f 8 (nI (zz + 1))) 20))), (9, .int (nI (zz + 1))), (7, .long (zl)), (6, .int (bs)), (5, .ref (a 1)), (0, .ref (x 0)), (1, .int (nI 0)), (2, .long (zw)), (4, .int (nI 0))]) hx hb dX4_nearestCutOff_81 hl (by decide) rfl (fun ls hl => ?_)
            refine lv_lload hx hb dX4_nearestCutOff_83 (lvG hl rfl) ?_
            refine lv_lload_n hx hb dX4_nearestCutOff_85 rfl (lvG hl rfl) ?_
            refine lv_lsub hx hb dX4_nearestCutOff_86 ?_
            refine va_mabs_long hx hb (hml.trans hl.1.symm) hown (hts _ w_509) (hts _ w_510) (hts _ w_31) (hts _ w_511) (Nat.le_of_ble_eq_true rfl) (Nat.le_of_ble_eq_true rfl) (Nat.le_of_ble_eq_true rfl) (Nat.le_of_ble_eq_true rfl) dX4_nearestCutOff_87 ?_
            rw [abs_l]
            rw [show (s_abl ((((s_ar (k_ic f 8 (nI (zz + 1))) 20)).toInt64) - zw)) = D (nI (zz + 1)) from (hDd (nI (zz + 1))).symm]
            refine lv_lstore (lv' := [(13, .long (D (nI (zz + 1)))), (11, .long (((s_ar (k_ic f 8 (nI (zz + 1))) 20)).toInt64)), (10, .int ((s_ar (k_ic f 8 (nI (zz + 1))) 20))), (9, .int (nI (zz + 1))), (7, .long (zl)), (6, .int (bs)), (5, .ref (a 1)), (0, .ref (x 0)), (1, .int (nI 0)), (2, .long (zw)), (4, .int (nI 0))]) hx hb dX4_nearestCutOff_90 hl (by decide) rfl (fun ls hl => ?_)
            refine lv_lload hx hb dX4_nearestCutOff_92 (lvG hl rfl) ?_
            refine lv_lload hx hb dX4_nearestCutOff_94 (lvG hl rfl) ?_
            refine j_lge (tgt := 108) hC dX4_nearestCutOff_96 dX4_nearestCutOff_97 (by decide) (fun zc96 => ?_) (fun zc96 => ?_)
            · refine n_iinc (lv' := [(9, .int (nI (zz + 1 + 1))), (13, .long (D (nI (zz + 1)))), (11, .long (((s_ar (k_ic f 8 (nI (zz + 1))) 20)).toInt64)), (10, .int ((s_ar (k_ic f 8 (nI (zz + 1))) 20))), (7, .long (zl)), (6, .int (bs)), (5, .ref (a 1)), (0, .ref (x 0)), (1, .int (nI 0)), (2, .long (zw)), (4, .int (nI 0))]) hC dX4_nearestCutOff_108 hl rfl (by decide) rfl (fun ls hl => ?_)
              refine lv_goto (tgt := 25) hx hb dX4_nearestCutOff_111 (by decide) ?_
              exact ih_3 (zz + 1) zl bs tr_12 te_13 fo_14 so_15 _ _ hT_10 hD_11 hS_7 (by first | omega | assumption | rfl) (by first | exact (kn_t1 hzl (Int32.not_le.mp zc39) (Int32.not_le.mp zc49) (Int64.not_le.mp zc96)).1 | exact (kn_f1 hbs hzl (fun q => absurd q.1 (Int32.not_lt.mpr zc39))).1 | exact (kn_f1 hbs hzl (fun q => absurd q.2.1 (Int32.not_lt.mpr zc49))).1 | exact (kn_f1 hbs hzl (fun q => absurd q.2.2 (Int64.not_lt.mpr zc96))).1) (by first | exact (kn_t1 hzl (Int32.not_le.mp zc39) (Int32.not_le.mp zc49) (Int64.not_le.mp zc96)).2 | exact (kn_f1 hbs hzl (fun q => absurd q.1 (Int32.not_lt.mpr zc39))).2 | exact (kn_f1 hbs hzl (fun q => absurd q.2.1 (Int32.not_lt.mpr zc49))).2 | exact (kn_f1 hbs hzl (fun q => absurd q.2.2 (Int64.not_lt.mpr zc96))).2) (by omega) ls (lv_sub hl [0, 4, 5, 6, 7, 8, 9, 10] rfl)
            · refine lv_lload hx hb dX4_nearestCutOff_100 (lvG hl rfl) ?_
              refine lv_lstore (lv' := [(7, .long (D (nI (zz + 1)))), (13, .long (D (nI (zz + 1)))), (11, .long (((s_ar (k_ic f 8 (nI (zz + 1))) 20)).toInt64)), (10, .int ((s_ar (k_ic f 8 (nI (zz + 1))) 20))), (9, .int (nI (zz + 1))), (6, .int (bs)), (5, .ref (a 1)), (0, .ref (x 0)), (1, .int (nI 0)), (2, .long (zw)), (4, .int (nI 0))]) hx hb dX4_nearestCutOff_102 hl (by decide) rfl (fun ls hl => ?_)
              refine lv_iload hx hb dX4_nearestCutOff_104 (lvG hl rfl) ?_
              refine lv_istore (lv' := [(6, .int (nI (zz + 1))), (7, .long (D (nI (zz + 1)))), (13, .long (D (nI (zz + 1)))), (11, .long (((s_ar (k_ic f 8 (nI (zz + 1))) 20)).toInt64)), (10, .int ((s_ar (k_ic f 8 (nI (zz + 1))) 20))), (9, .int (nI (zz + 1))), (5, .ref (a 1)), (0, .ref (x 0)), (1, .int (nI 0)), (2, .long (zw)), (4, .int (nI 0))]) hx hb dX4_nearestCutOff_106 hl (by decide) rfl (fun ls hl => ?_)
              refine n_iinc (lv' := [(9, .int (nI (zz + 1 + 1))), (6, .int (nI (zz + 1))), (7, .long (D (nI (zz + 1)))), (13, .long (D (nI (zz + 1)))), (11, .long (((s_ar (k_ic f 8 (nI (zz + 1))) 20)).toInt64)), (10, .int ((s_ar (k_ic f 8 (nI (zz + 1))) 20))), (5, .ref (a 1)), (0, .ref (x 0)), (1, .int (nI 0)), (2, .long (zw)), (4, .int (nI 0))]) hC dX4_nearestCutOff_108 hl rfl (by decide) rfl (fun ls hl => ?_)
              refine lv_goto (tgt := 25) hx hb dX4_nearestCutOff_111 (by decide) ?_
              exact ih_3 (zz + 1) (D (nI (zz + 1))) (nI (zz + 1)) tr_12 te_13 fo_14 so_15 _ _ hT_10 hD_11 hS_7 (by first | omega | assumption | rfl) (by first | exact (kn_t1 hzl (Int32.not_le.mp zc39) (Int32.not_le.mp zc49) (Int64.not_le.mp zc96)).1 | exact (kn_f1 hbs hzl (fun q => absurd q.1 (Int32.not_lt.mpr zc39))).1 | exact (kn_f1 hbs hzl (fun q => absurd q.2.1 (Int32.not_lt.mpr zc49))).1 | exact (kn_f1 hbs hzl (fun q => absurd q.2.2 (Int64.not_lt.mpr zc96))).1) (by first | exact (kn_t1 hzl (Int32.not_le.mp zc39) (Int32.not_le.mp zc49) (Int64.not_le.mp zc96)).2 | exact (kn_f1 hbs hzl (fun q => absurd q.1 (Int32.not_lt.mpr zc39))).2 | exact (kn_f1 hbs hzl (fun q => absurd q.2.1 (Int32.not_lt.mpr zc49))).2 | exact (kn_f1 hbs hzl (fun q => absurd q.2.2 (Int64.not_lt.mpr zc96))).2) (by omega) ls (lv_sub hl [0, 2, 1, 6, 7, 8, 9, 10] rfl)
  exact key_1 ((18 - 0) + 1) 0 ((9223372036854775807 : Int64)) (f 9) tr te fo so _ _ hT hD hS (by first | rfl | omega | assumption) ((congrArg Prod.snd kn_0).symm) ((congrArg Prod.fst kn_0).symm) (Nat.lt_succ_self _) ls (lv_sub hl [0, 1, 2, 3, 4, 5, 6, 7] rfl)
set_option maxHeartbeats 4000000 in
set_option maxRecDepth 100000 in
theorem c_X4_nearest1 (l : Launch) (g : kG) (x : Nat → Nat) (a : Nat → Nat) (n : Nat) (f : Nat → Int32) (cn : Nat) (rf : Nat → Option Nat) (hc : f 61 = nI cn) (hcn : cn ≤ 10) (zw : Int64) (D : Int32 → Int64) (hDd : ∀ co, D co = s_abl ((s_ar (k_ic f 12 co) 20).toInt64 - zw)) : MI l yX4_nearestCutOff cX4_nearestCutOff 15 (some .int) (rr 5 117) [.ref (x 0), .int (nI 1), .long (zw), .int (nI 0)] ((fun H => XB g x a n f cn rf H ∧ XS g x H)) g 0 0 (SC x) (fun r H1 => r = (k_nc (f 12) (f 14) (f 13) D 18).2 ∧ XS g x H1) := by
  refine kOf (by decide) (Nat.le_of_ble_eq_true rfl) (fun p e s m below meth c ls hC hr hlk hin hK hP hl => ?_)
  have hx := hC.1
  have hb := hC.2.1
  have hml := hC.2.2.1
  have hown := hC.2.2.2.1
  have hts := hC.2.2.2.2
  have hl : lv_has ls 15 [(0, .ref (x 0)), (1, .int (nI 1)), (2, .long (zw)), (4, .int (nI 0))] := hl
  obtain ⟨hB, ⟨tr, te, fo, so, hT, hD⟩⟩ := hP
  have hS : va_S (SC x) s.heap s.heap [] := va_S.rf
  refine lv_aload_n hx hb dX4_nearestCutOff_0 rfl (lvG hl rfl) ?_
  refine va_get (D := g.1) (ci := 4) (v := .ref (a 0)) (C := RX4) (T := TX4) (N := 7) hx hb hts i_X4 hown hK.1 hB.1 0 rfl rfl 0 (by decide) (hts _ w_175) (fun _ h9 => h9) rfl dX4_nearestCutOff_1 ?_
  refine lv_iload_n hx hb dX4_nearestCutOff_4 rfl (lvG hl rfl) ?_
  refine k_callPR (k_goV (rest := []) hC hK (c_X3_valvesOf l g a f (nI 1)) L_X4_X3_valvesOf (⟨⟨Nat.le_of_ble_eq_true rfl, Nat.le_of_ble_eq_true rfl⟩, ⟨rfl, rfl⟩, ⟨Nat.le_of_ble_eq_true rfl, Nat.le_of_ble_eq_true rfl⟩⟩) (k_recv hK hB.1 1 rfl rfl) ((hB.1.sub [1] rfl)) rfl hl.1 rfl (Nat.le_of_ble_eq_true rfl) dX4_nearestCutOff_5) ?_
  rw [if_neg (show ¬ nI 1 = nI 0 by decide)]
  refine lv_astore (lv' := [(5, .ref (a 2)), (0, .ref (x 0)), (1, .int (nI 1)), (2, .long (zw)), (4, .int (nI 0))]) hx hb dX4_nearestCutOff_8 hl (by decide) rfl (fun ls hl => ?_)
  refine lv_aload hx hb dX4_nearestCutOff_10 (lvG hl rfl) ?_
  refine va_get (D := g.1) (ci := 2) (v := .int (f 13)) (C := RX2) (T := TX2) (N := 4) hx hb hts i_X2 hown hK.1 hB.1 3 rfl rfl 1 (by decide) (hts _ w_71) (fun _ h9 => h9) rfl dX4_nearestCutOff_12 ?_
  refine lv_istore (lv' := [(6, .int (f 13)), (5, .ref (a 2)), (0, .ref (x 0)), (1, .int (nI 1)), (2, .long (zw)), (4, .int (nI 0))]) hx hb dX4_nearestCutOff_15 hl (by decide) rfl (fun ls hl => ?_)
  refine lv_ldc2 (v := (9223372036854775807 : Int64)) hx hb hown (hts _ w_521) dX4_nearestCutOff_17 ?_
  refine lv_lstore (lv' := [(7, .long ((9223372036854775807 : Int64))), (6, .int (f 13)), (5, .ref (a 2)), (0, .ref (x 0)), (1, .int (nI 1)), (2, .long (zw)), (4, .int (nI 0))]) hx hb dX4_nearestCutOff_20 hl (by decide) rfl (fun ls hl => ?_)
  refine lv_iconst (v := nI 1) hx hb dX4_nearestCutOff_22 (by decide) ?_
  refine lv_istore (lv' := [(9, .int (nI 1)), (7, .long ((9223372036854775807 : Int64))), (6, .int (f 13)), (5, .ref (a 2)), (0, .ref (x 0)), (1, .int (nI 1)), (2, .long (zw)), (4, .int (nI 0))]) hx hb dX4_nearestCutOff_23 hl (by decide) rfl (fun ls hl => ?_)
  have key_1 : ∀ (k_2 : Nat) (zz : Nat) (zl : Int64) (bs : Int32) (tr9 te9 fo9 so9 : Nat → Int32) (H9 : Heap) (locs9 : List Loc) (hT9 : va_P g.1 kCl [cI g (x 3) 21 tr9, cI g (x 4) 21 ((fun k => tr9 (21 + k))), (x 5, .inr (2, [.int (te9 0), .int (te9 1), .int (te9 2), .int (te9 3)])), (x 6, .inr (2, [.int (fo9 0), .int (fo9 1), .int (fo9 2), .int (fo9 3)])), cI g (x 7) 10 so9] H9) (hD9 : va_D (SC x) [cI g (x 3) 21 tr9, cI g (x 4) 21 ((fun k => tr9 (21 + k))), (x 5, .inr (2, [.int (te9 0), .int (te9 1), .int (te9 2), .int (te9 3)])), (x 6, .inr (2, [.int (fo9 0), .int (fo9 1), .int (fo9 2), .int (fo9 3)])), cI g (x 7) 10 so9]) (hS9 : va_S (SC x) s.heap H9 locs9) (hz : zz ≤ 18) (hbs : bs = (k_nc (f 12) (f 14) (f 13) D zz).2) (hzl : zl = (k_nc (f 12) (f 14) (f 13) D zz).1) (hk_k_2 : 18 - zz < k_2) (ls : Array Slot) (hl : lv_has ls 15 [(9, .int (nI (zz + 1))), (7, .long (zl)), (6, .int (bs)), (5, .ref (a 2)), (0, .ref (x 0)), (1, .int (nI 1)), (2, .long (zw)), (4, .int (nI 0))]), W p l e (rr 5 117) s m [.ref (x 0), .int (nI 1), .long (zw), .int (nI 0)].toArray below meth c H9 locs9 0 0 (MQ below (qI (SC x) (fun r H1 => r = (k_nc (f 12) (f 14) (f 13) D 18).2 ∧ XS g x H1)) [.ref (x 0), .int (nI 1), .long (zw), .int (nI 0)].toArray s 0 0 (SC x)) (F0 m 25 ls ([])) := by
    intro k_2
    induction k_2 with
    | zero => intro zz zl bs tr9 te9 fo9 so9 H9 locs9 hT9 hD9 hS9 hz hbs hzl hk_k_2 ls hl; exact absurd hk_k_2 (Nat.not_lt_zero _)
    | succ k_2 ih_3 =>
      intro zz zl bs tr9 te9 fo9 so9 H9 locs9 hT9 hD9 hS9 hz hbs hzl hk_k_2 ls hl
      have hB9 : XB g x a n f cn rf H9 := hB.at hS9
      refine lv_iload hx hb dX4_nearestCutOff_25 (lvG hl rfl) ?_
      refine lv_bipush (v := nI 18) hx hb dX4_nearestCutOff_27 (by decide) ?_
      refine n_icmp_gt (tgt := 114) hC dX4_nearestCutOff_29 (by omega) (by omega) (by decide) (fun zc29 => ?_) (fun zc29 => ?_)
      · refine lv_iload hx hb dX4_nearestCutOff_114 (lvG hl rfl) ?_
        exact k_iretM hC hr hlk hS9 dX4_nearestCutOff_116 (⟨by rw [hbs, show zz = 18 by omega], XTS ⟨hT9, hD9⟩⟩)
      · refine lv_iload hx hb dX4_nearestCutOff_32 (lvG hl rfl) ?_
        refine lv_aload hx hb dX4_nearestCutOff_34 (lvG hl rfl) ?_
        refine va_get (D := g.1) (ci := 2) (v := .int (f 12)) (C := RX2) (T := TX2) (N := 4) hx hb hts i_X2 hown hK.1 hB9.1 3 rfl rfl 0 (by decide) (hts _ w_69) (fun _ h9 => h9) rfl dX4_nearestCutOff_36 ?_
        refine lv_icmp_le (tgt := 108) hx hb dX4_nearestCutOff_39 (by decide) (fun zc39 => ?_) (fun zc39 => ?_)
        · refine n_iinc (lv' := [(9, .int (nI (zz + 1 + 1))), (7, .long (zl)), (6, .int (bs)), (5, .ref (a 2)), (0, .ref (x 0)), (1, .int (nI 1)), (2, .long (zw)), (4, .int (nI 0))]) hC dX4_nearestCutOff_108 hl rfl (by decide) rfl (fun ls hl => ?_)
          refine lv_goto (tgt := 25) hx hb dX4_nearestCutOff_111 (by decide) ?_
          exact ih_3 (zz + 1) zl bs tr9 te9 fo9 so9 _ _ hT9 hD9 hS9 (by first | omega | assumption | rfl) (by first | exact (kn_t1 hzl (Int32.not_le.mp zc39) (Int32.not_le.mp zc49) (Int64.not_le.mp zc96)).1 | exact (kn_f1 hbs hzl (fun q => absurd q.1 (Int32.not_lt.mpr zc39))).1 | exact (kn_f1 hbs hzl (fun q => absurd q.2.1 (Int32.not_lt.mpr zc49))).1 | exact (kn_f1 hbs hzl (fun q => absurd q.2.2 (Int64.not_lt.mpr zc96))).1) (by first | exact (kn_t1 hzl (Int32.not_le.mp zc39) (Int32.not_le.mp zc49) (Int64.not_le.mp zc96)).2 | exact (kn_f1 hbs hzl (fun q => absurd q.1 (Int32.not_lt.mpr zc39))).2 | exact (kn_f1 hbs hzl (fun q => absurd q.2.1 (Int32.not_lt.mpr zc49))).2 | exact (kn_f1 hbs hzl (fun q => absurd q.2.2 (Int64.not_lt.mpr zc96))).2) (by omega) ls (lv_sub hl [0, 1, 2, 3, 4, 5, 6, 7] rfl)
        · refine lv_iload hx hb dX4_nearestCutOff_42 (lvG hl rfl) ?_
          refine lv_aload hx hb dX4_nearestCutOff_44 (lvG hl rfl) ?_
          refine va_get (D := g.1) (ci := 2) (v := .int (f 14)) (C := RX2) (T := TX2) (N := 4) hx hb hts i_X2 hown hK.1 hB9.1 3 rfl rfl 2 (by decide) (hts _ w_73) (fun _ h9 => h9) rfl dX4_nearestCutOff_46 ?_
          refine lv_icmp_ge (tgt := 108) hx hb dX4_nearestCutOff_49 (by decide) (fun zc49 => ?_) (fun zc49 => ?_)
          · refine n_iinc (lv' := [(9, .int (nI (zz + 1 + 1))), (7, .long (zl)), (6, .int (bs)), (5, .ref (a 2)), (0, .ref (x 0)), (1, .int (nI 1)), (2, .long (zw)), (4, .int (nI 0))]) hC dX4_nearestCutOff_108 hl rfl (by decide) rfl (fun ls hl => ?_)
            refine lv_goto (tgt := 25) hx hb dX4_nearestCutOff_111 (by decide) ?_
            exact ih_3 (zz + 1) zl bs tr9 te9 fo9 so9 _ _ hT9 hD9 hS9 (by first | omega | assumption | rfl) (by first | exact (kn_t1 hzl (Int32.not_le.mp zc39) (Int32.not_le.mp zc49) (Int64.not_le.mp zc96)).1 | exact (kn_f1 hbs hzl (fun q => absurd q.1 (Int32.not_lt.mpr zc39))).1 | exact (kn_f1 hbs hzl (fun q => absurd q.2.1 (Int32.not_lt.mpr zc49))).1 | exact (kn_f1 hbs hzl (fun q => absurd q.2.2 (Int64.not_lt.mpr zc96))).1) (by first | exact (kn_t1 hzl (Int32.not_le.mp zc39) (Int32.not_le.mp zc49) (Int64.not_le.mp zc96)).2 | exact (kn_f1 hbs hzl (fun q => absurd q.1 (Int32.not_lt.mpr zc39))).2 | exact (kn_f1 hbs hzl (fun q => absurd q.2.1 (Int32.not_lt.mpr zc49))).2 | exact (kn_f1 hbs hzl (fun q => absurd q.2.2 (Int64.not_lt.mpr zc96))).2) (by omega) ls (lv_sub hl [0, 1, 2, 3, 4, 5, 6, 7] rfl)
          · refine lv_aload_n hx hb dX4_nearestCutOff_52 rfl (lvG hl rfl) ?_
            refine lv_iload_n hx hb dX4_nearestCutOff_53 rfl (lvG hl rfl) ?_
            refine lv_iload hx hb dX4_nearestCutOff_54 (lvG hl rfl) ?_
            refine k_callMI0 (k_goV (rest := []) hC hK (c_X4_areaWith1 l g x a n f cn rf (nI (zz + 1))) L_X4_X4_areaWithCutOff (⟨⟨Nat.le_of_ble_eq_true rfl, Nat.le_of_ble_eq_true rfl⟩, ⟨rfl, rfl⟩, ⟨Nat.le_of_ble_eq_true rfl, Nat.le_of_ble_eq_true rfl⟩⟩) (k_recv hK hB9.1 0 rfl rfl) (⟨hB9, ⟨tr9, te9, fo9, so9, hT9, hD9⟩⟩) rfl hl.1 rfl (Nat.le_of_ble_eq_true rfl) dX4_nearestCutOff_56) hS9 (fun _ h => h) (fun r_ H_4 locs_5 hQ_6 hz_ hk_8 hS_7 => ?_)
            obtain ⟨e_9, tr_12, te_13, fo_14, so_15, hT_10, hD_11⟩ := hQ_6
            subst e_9
            have hB_16 : XB g x a n f cn rf H_4 := hB.at hS_7
            refine lv_istore (lv' := [(10, .int ((s_ar (k_ic f 12 (nI (zz + 1))) 20))), (9, .int (nI (zz + 1))), (7, .long (zl)), (6, .int (bs)), (5, .ref (a 2)), (0, .ref (x 0)), (1, .int (nI 1)), (2, .long (zw)), (4, .int (nI 0))]) hx hb dX4_nearestCutOff_59 hl (by decide) rfl (fun ls hl => ?_)
            refine lv_iload hx hb dX4_nearestCutOff_61 (lvG hl rfl) ?_
            refine n_if_eq (tgt := 78) hC dX4_nearestCutOff_63 (by decide) (by decide) (fun _ => ?_) (fun c => absurd c (by decide))
            refine lv_iload hx hb dX4_nearestCutOff_78 (lvG hl rfl) ?_
            refine lv_i2l (v := ((s_ar (k_ic f 12 (nI (zz + 1))) 20)).toInt64) hx hb dX4_nearestCutOff_80 rfl ?_
            refine lv_lstore (lv' := [(11, .long (((s_ar (k_ic f 12 (nI (zz + 1))) 20)).toInt64)), (10, .int ((s_ar (k_ic f 12 (nI (zz + 1))) 20))), (9, .int (nI (zz + 1))), (7, .long (zl)), (6, .int (bs)), (5, .ref (a 2)), (0, .ref (x 0)), (1, .int (nI 1)), (2, .long (zw)), (4, .int (nI 0))]) hx hb dX4_nearestCutOff_81 hl (by decide) rfl (fun ls hl => ?_)
            refine lv_lload hx hb dX4_nearestCutOff_83 (lvG hl rfl) ?_
            refine lv_lload_n hx hb dX4_nearestCutOff_85 rfl (lvG hl rfl) ?_
            refine lv_lsub hx hb dX4_nearestCutOff_86 ?_
            refine va_mabs_long hx hb (hml.trans hl.1.symm) hown (hts _ w_509) (hts _ w_510) (hts _ w_31) (hts _ w_511) (Nat.le_of_ble_eq_true rfl) (Nat.le_of_ble_eq_true rfl) (Nat.le_of_ble_eq_true rfl) (Nat.le_of_ble_eq_true rfl) dX4_nearestCutOff_87 ?_
            rw [abs_l]
            rw [show (s_abl ((((s_ar (k_ic f 12 (nI (zz + 1))) 20)).toInt64) - zw)) = D (nI (zz + 1)) from (hDd (nI (zz + 1))).symm]
            refine lv_lstore (lv' := [(13, .long (D (nI (zz + 1)))), (11, .long (((s_ar (k_ic f 12 (nI (zz + 1))) 20)).toInt64)), (10, .int ((s_ar (k_ic f 12 (nI (zz + 1))) 20))), (9, .int (nI (zz + 1))), (7, .long (zl)), (6, .int (bs)), (5, .ref (a 2)), (0, .ref (x 0)), (1, .int (nI 1)), (2, .long (zw)), (4, .int (nI 0))]) hx hb dX4_nearestCutOff_90 hl (by decide) rfl (fun ls hl => ?_)
            refine lv_lload hx hb dX4_nearestCutOff_92 (lvG hl rfl) ?_
            refine lv_lload hx hb dX4_nearestCutOff_94 (lvG hl rfl) ?_
            refine j_lge (tgt := 108) hC dX4_nearestCutOff_96 dX4_nearestCutOff_97 (by decide) (fun zc96 => ?_) (fun zc96 => ?_)
            · refine n_iinc (lv' := [(9, .int (nI (zz + 1 + 1))), (13, .long (D (nI (zz + 1)))), (11, .long (((s_ar (k_ic f 12 (nI (zz + 1))) 20)).toInt64)), (10, .int ((s_ar (k_ic f 12 (nI (zz + 1))) 20))), (7, .long (zl)), (6, .int (bs)), (5, .ref (a 2)), (0, .ref (x 0)), (1, .int (nI 1)), (2, .long (zw)), (4, .int (nI 0))]) hC dX4_nearestCutOff_108 hl rfl (by decide) rfl (fun ls hl => ?_)
              refine lv_goto (tgt := 25) hx hb dX4_nearestCutOff_111 (by decide) ?_
              exact ih_3 (zz + 1) zl bs tr_12 te_13 fo_14 so_15 _ _ hT_10 hD_11 hS_7 (by first | omega | assumption | rfl) (by first | exact (kn_t1 hzl (Int32.not_le.mp zc39) (Int32.not_le.mp zc49) (Int64.not_le.mp zc96)).1 | exact (kn_f1 hbs hzl (fun q => absurd q.1 (Int32.not_lt.mpr zc39))).1 | exact (kn_f1 hbs hzl (fun q => absurd q.2.1 (Int32.not_lt.mpr zc49))).1 | exact (kn_f1 hbs hzl (fun q => absurd q.2.2 (Int64.not_lt.mpr zc96))).1) (by first | exact (kn_t1 hzl (Int32.not_le.mp zc39) (Int32.not_le.mp zc49) (Int64.not_le.mp zc96)).2 | exact (kn_f1 hbs hzl (fun q => absurd q.1 (Int32.not_lt.mpr zc39))).2 | exact (kn_f1 hbs hzl (fun q => absurd q.2.1 (Int32.not_lt.mpr zc49))).2 | exact (kn_f1 hbs hzl (fun q => absurd q.2.2 (Int64.not_lt.mpr zc96))).2) (by omega) ls (lv_sub hl [0, 4, 5, 6, 7, 8, 9, 10] rfl)
            · refine lv_lload hx hb dX4_nearestCutOff_100 (lvG hl rfl) ?_
              refine lv_lstore (lv' := [(7, .long (D (nI (zz + 1)))), (13, .long (D (nI (zz + 1)))), (11, .long (((s_ar (k_ic f 12 (nI (zz + 1))) 20)).toInt64)), (10, .int ((s_ar (k_ic f 12 (nI (zz + 1))) 20))), (9, .int (nI (zz + 1))), (6, .int (bs)), (5, .ref (a 2)), (0, .ref (x 0)), (1, .int (nI 1)), (2, .long (zw)), (4, .int (nI 0))]) hx hb dX4_nearestCutOff_102 hl (by decide) rfl (fun ls hl => ?_)
              refine lv_iload hx hb dX4_nearestCutOff_104 (lvG hl rfl) ?_
              refine lv_istore (lv' := [(6, .int (nI (zz + 1))), (7, .long (D (nI (zz + 1)))), (13, .long (D (nI (zz + 1)))), (11, .long (((s_ar (k_ic f 12 (nI (zz + 1))) 20)).toInt64)), (10, .int ((s_ar (k_ic f 12 (nI (zz + 1))) 20))), (9, .int (nI (zz + 1))), (5, .ref (a 2)), (0, .ref (x 0)), (1, .int (nI 1)), (2, .long (zw)), (4, .int (nI 0))]) hx hb dX4_nearestCutOff_106 hl (by decide) rfl (fun ls hl => ?_)
              refine n_iinc (lv' := [(9, .int (nI (zz + 1 + 1))), (6, .int (nI (zz + 1))), (7, .long (D (nI (zz + 1)))), (13, .long (D (nI (zz + 1)))), (11, .long (((s_ar (k_ic f 12 (nI (zz + 1))) 20)).toInt64)), (10, .int ((s_ar (k_ic f 12 (nI (zz + 1))) 20))), (5, .ref (a 2)), (0, .ref (x 0)), (1, .int (nI 1)), (2, .long (zw)), (4, .int (nI 0))]) hC dX4_nearestCutOff_108 hl rfl (by decide) rfl (fun ls hl => ?_)
              refine lv_goto (tgt := 25) hx hb dX4_nearestCutOff_111 (by decide) ?_
              exact ih_3 (zz + 1) (D (nI (zz + 1))) (nI (zz + 1)) tr_12 te_13 fo_14 so_15 _ _ hT_10 hD_11 hS_7 (by first | omega | assumption | rfl) (by first | exact (kn_t1 hzl (Int32.not_le.mp zc39) (Int32.not_le.mp zc49) (Int64.not_le.mp zc96)).1 | exact (kn_f1 hbs hzl (fun q => absurd q.1 (Int32.not_lt.mpr zc39))).1 | exact (kn_f1 hbs hzl (fun q => absurd q.2.1 (Int32.not_lt.mpr zc49))).1 | exact (kn_f1 hbs hzl (fun q => absurd q.2.2 (Int64.not_lt.mpr zc96))).1) (by first | exact (kn_t1 hzl (Int32.not_le.mp zc39) (Int32.not_le.mp zc49) (Int64.not_le.mp zc96)).2 | exact (kn_f1 hbs hzl (fun q => absurd q.1 (Int32.not_lt.mpr zc39))).2 | exact (kn_f1 hbs hzl (fun q => absurd q.2.1 (Int32.not_lt.mpr zc49))).2 | exact (kn_f1 hbs hzl (fun q => absurd q.2.2 (Int64.not_lt.mpr zc96))).2) (by omega) ls (lv_sub hl [0, 2, 1, 6, 7, 8, 9, 10] rfl)
  exact key_1 ((18 - 0) + 1) 0 ((9223372036854775807 : Int64)) (f 13) tr te fo so _ _ hT hD hS (by first | rfl | omega | assumption) ((congrArg Prod.snd kn_0).symm) ((congrArg Prod.fst kn_0).symm) (Nat.lt_succ_self _) ls (lv_sub hl [0, 1, 2, 3, 4, 5, 6, 7] rfl)
set_option maxHeartbeats 4000000 in
set_option maxRecDepth 100000 in
theorem c_X4_nearest2 (l : Launch) (g : kG) (x : Nat → Nat) (a : Nat → Nat) (n : Nat) (f : Nat → Int32) (cn : Nat) (rf : Nat → Option Nat) (hc : f 61 = nI cn) (hcn : cn ≤ 10) (zw : Int64) (D : Int32 → Int64) (hDd : ∀ co, D co = s_abl (s_pw f (s_ar (k_ic f 12 co) 20) 1 (nI 60) - zw)) : MI l yX4_nearestCutOff cX4_nearestCutOff 15 (some .int) (rr 5 117) [.ref (x 0), .int (nI 1), .long (zw), .int (nI 1)] ((fun H => XB g x a n f cn rf H ∧ XS g x H)) g 0 0 (SC x) (fun r H1 => r = (k_nc (f 12) (f 14) (f 13) D 18).2 ∧ XS g x H1) := by
  refine kOf (by decide) (Nat.le_of_ble_eq_true rfl) (fun p e s m below meth c ls hC hr hlk hin hK hP hl => ?_)
  have hx := hC.1
  have hb := hC.2.1
  have hml := hC.2.2.1
  have hown := hC.2.2.2.1
  have hts := hC.2.2.2.2
  have hl : lv_has ls 15 [(0, .ref (x 0)), (1, .int (nI 1)), (2, .long (zw)), (4, .int (nI 1))] := hl
  obtain ⟨hB, ⟨tr, te, fo, so, hT, hD⟩⟩ := hP
  have hS : va_S (SC x) s.heap s.heap [] := va_S.rf
  refine lv_aload_n hx hb dX4_nearestCutOff_0 rfl (lvG hl rfl) ?_
  refine va_get (D := g.1) (ci := 4) (v := .ref (a 0)) (C := RX4) (T := TX4) (N := 7) hx hb hts i_X4 hown hK.1 hB.1 0 rfl rfl 0 (by decide) (hts _ w_175) (fun _ h9 => h9) rfl dX4_nearestCutOff_1 ?_
  refine lv_iload_n hx hb dX4_nearestCutOff_4 rfl (lvG hl rfl) ?_
  refine k_callPR (k_goV (rest := []) hC hK (c_X3_valvesOf l g a f (nI 1)) L_X4_X3_valvesOf (⟨⟨Nat.le_of_ble_eq_true rfl, Nat.le_of_ble_eq_true rfl⟩, ⟨rfl, rfl⟩, ⟨Nat.le_of_ble_eq_true rfl, Nat.le_of_ble_eq_true rfl⟩⟩) (k_recv hK hB.1 1 rfl rfl) ((hB.1.sub [1] rfl)) rfl hl.1 rfl (Nat.le_of_ble_eq_true rfl) dX4_nearestCutOff_5) ?_
  rw [if_neg (show ¬ nI 1 = nI 0 by decide)]
  refine lv_astore (lv' := [(5, .ref (a 2)), (0, .ref (x 0)), (1, .int (nI 1)), (2, .long (zw)), (4, .int (nI 1))]) hx hb dX4_nearestCutOff_8 hl (by decide) rfl (fun ls hl => ?_)
  refine lv_aload hx hb dX4_nearestCutOff_10 (lvG hl rfl) ?_
  refine va_get (D := g.1) (ci := 2) (v := .int (f 13)) (C := RX2) (T := TX2) (N := 4) hx hb hts i_X2 hown hK.1 hB.1 3 rfl rfl 1 (by decide) (hts _ w_71) (fun _ h9 => h9) rfl dX4_nearestCutOff_12 ?_
  refine lv_istore (lv' := [(6, .int (f 13)), (5, .ref (a 2)), (0, .ref (x 0)), (1, .int (nI 1)), (2, .long (zw)), (4, .int (nI 1))]) hx hb dX4_nearestCutOff_15 hl (by decide) rfl (fun ls hl => ?_)
  refine lv_ldc2 (v := (9223372036854775807 : Int64)) hx hb hown (hts _ w_521) dX4_nearestCutOff_17 ?_
  refine lv_lstore (lv' := [(7, .long ((9223372036854775807 : Int64))), (6, .int (f 13)), (5, .ref (a 2)), (0, .ref (x 0)), (1, .int (nI 1)), (2, .long (zw)), (4, .int (nI 1))]) hx hb dX4_nearestCutOff_20 hl (by decide) rfl (fun ls hl => ?_)
  refine lv_iconst (v := nI 1) hx hb dX4_nearestCutOff_22 (by decide) ?_
  refine lv_istore (lv' := [(9, .int (nI 1)), (7, .long ((9223372036854775807 : Int64))), (6, .int (f 13)), (5, .ref (a 2)), (0, .ref (x 0)), (1, .int (nI 1)), (2, .long (zw)), (4, .int (nI 1))]) hx hb dX4_nearestCutOff_23 hl (by decide) rfl (fun ls hl => ?_)
  have key_1 : ∀ (k_2 : Nat) (zz : Nat) (zl : Int64) (bs : Int32) (tr9 te9 fo9 so9 : Nat → Int32) (H9 : Heap) (locs9 : List Loc) (hT9 : va_P g.1 kCl [cI g (x 3) 21 tr9, cI g (x 4) 21 ((fun k => tr9 (21 + k))), (x 5, .inr (2, [.int (te9 0), .int (te9 1), .int (te9 2), .int (te9 3)])), (x 6, .inr (2, [.int (fo9 0), .int (fo9 1), .int (fo9 2), .int (fo9 3)])), cI g (x 7) 10 so9] H9) (hD9 : va_D (SC x) [cI g (x 3) 21 tr9, cI g (x 4) 21 ((fun k => tr9 (21 + k))), (x 5, .inr (2, [.int (te9 0), .int (te9 1), .int (te9 2), .int (te9 3)])), (x 6, .inr (2, [.int (fo9 0), .int (fo9 1), .int (fo9 2), .int (fo9 3)])), cI g (x 7) 10 so9]) (hS9 : va_S (SC x) s.heap H9 locs9) (hz : zz ≤ 18) (hbs : bs = (k_nc (f 12) (f 14) (f 13) D zz).2) (hzl : zl = (k_nc (f 12) (f 14) (f 13) D zz).1) (hk_k_2 : 18 - zz < k_2) (ls : Array Slot) (hl : lv_has ls 15 [(9, .int (nI (zz + 1))), (7, .long (zl)), (6, .int (bs)), (5, .ref (a 2)), (0, .ref (x 0)), (1, .int (nI 1)), (2, .long (zw)), (4, .int (nI 1))]), W p l e (rr 5 117) s m [.ref (x 0), .int (nI 1), .long (zw), .int (nI 1)].toArray below meth c H9 locs9 0 0 (MQ below (qI (SC x) (fun r H1 => r = (k_nc (f 12) (f 14) (f 13) D 18).2 ∧ XS g x H1)) [.ref (x 0), .int (nI 1), .long (zw), .int (nI 1)].toArray s 0 0 (SC x)) (F0 m 25 ls ([])) := by
    intro k_2
    induction k_2 with
    | zero => intro zz zl bs tr9 te9 fo9 so9 H9 locs9 hT9 hD9 hS9 hz hbs hzl hk_k_2 ls hl; exact absurd hk_k_2 (Nat.not_lt_zero _)
    | succ k_2 ih_3 =>
      intro zz zl bs tr9 te9 fo9 so9 H9 locs9 hT9 hD9 hS9 hz hbs hzl hk_k_2 ls hl
      have hB9 : XB g x a n f cn rf H9 := hB.at hS9
      refine lv_iload hx hb dX4_nearestCutOff_25 (lvG hl rfl) ?_
      refine lv_bipush (v := nI 18) hx hb dX4_nearestCutOff_27 (by decide) ?_
      refine n_icmp_gt (tgt := 114) hC dX4_nearestCutOff_29 (by omega) (by omega) (by decide) (fun zc29 => ?_) (fun zc29 => ?_)
      · refine lv_iload hx hb dX4_nearestCutOff_114 (lvG hl rfl) ?_
        exact k_iretM hC hr hlk hS9 dX4_nearestCutOff_116 (⟨by rw [hbs, show zz = 18 by omega], XTS ⟨hT9, hD9⟩⟩)
      · refine lv_iload hx hb dX4_nearestCutOff_32 (lvG hl rfl) ?_
        refine lv_aload hx hb dX4_nearestCutOff_34 (lvG hl rfl) ?_
        refine va_get (D := g.1) (ci := 2) (v := .int (f 12)) (C := RX2) (T := TX2) (N := 4) hx hb hts i_X2 hown hK.1 hB9.1 3 rfl rfl 0 (by decide) (hts _ w_69) (fun _ h9 => h9) rfl dX4_nearestCutOff_36 ?_
        refine lv_icmp_le (tgt := 108) hx hb dX4_nearestCutOff_39 (by decide) (fun zc39 => ?_) (fun zc39 => ?_)
        · refine n_iinc (lv' := [(9, .int (nI (zz + 1 + 1))), (7, .long (zl)), (6, .int (bs)), (5, .ref (a 2)), (0, .ref (x 0)), (1, .int (nI 1)), (2, .long (zw)), (4, .int (nI 1))]) hC dX4_nearestCutOff_108 hl rfl (by decide) rfl (fun ls hl => ?_)
          refine lv_goto (tgt := 25) hx hb dX4_nearestCutOff_111 (by decide) ?_
          exact ih_3 (zz + 1) zl bs tr9 te9 fo9 so9 _ _ hT9 hD9 hS9 (by first | omega | assumption | rfl) (by first | exact (kn_t1 hzl (Int32.not_le.mp zc39) (Int32.not_le.mp zc49) (Int64.not_le.mp zc96)).1 | exact (kn_f1 hbs hzl (fun q => absurd q.1 (Int32.not_lt.mpr zc39))).1 | exact (kn_f1 hbs hzl (fun q => absurd q.2.1 (Int32.not_lt.mpr zc49))).1 | exact (kn_f1 hbs hzl (fun q => absurd q.2.2 (Int64.not_lt.mpr zc96))).1) (by first | exact (kn_t1 hzl (Int32.not_le.mp zc39) (Int32.not_le.mp zc49) (Int64.not_le.mp zc96)).2 | exact (kn_f1 hbs hzl (fun q => absurd q.1 (Int32.not_lt.mpr zc39))).2 | exact (kn_f1 hbs hzl (fun q => absurd q.2.1 (Int32.not_lt.mpr zc49))).2 | exact (kn_f1 hbs hzl (fun q => absurd q.2.2 (Int64.not_lt.mpr zc96))).2) (by omega) ls (lv_sub hl [0, 1, 2, 3, 4, 5, 6, 7] rfl)
        · refine lv_iload hx hb dX4_nearestCutOff_42 (lvG hl rfl) ?_
          refine lv_aload hx hb dX4_nearestCutOff_44 (lvG hl rfl) ?_
          refine va_get (D := g.1) (ci := 2) (v := .int (f 14)) (C := RX2) (T := TX2) (N := 4) hx hb hts i_X2 hown hK.1 hB9.1 3 rfl rfl 2 (by decide) (hts _ w_73) (fun _ h9 => h9) rfl dX4_nearestCutOff_46 ?_
          refine lv_icmp_ge (tgt := 108) hx hb dX4_nearestCutOff_49 (by decide) (fun zc49 => ?_) (fun zc49 => ?_)
          · refine n_iinc (lv' := [(9, .int (nI (zz + 1 + 1))), (7, .long (zl)), (6, .int (bs)), (5, .ref (a 2)), (0, .ref (x 0)), (1, .int (nI 1)), (2, .long (zw)), (4, .int (nI 1))]) hC dX4_nearestCutOff_108 hl rfl (by decide) rfl (fun ls hl => ?_)
            refine lv_goto (tgt := 25) hx hb dX4_nearestCutOff_111 (by decide) ?_
            exact ih_3 (zz + 1) zl bs tr9 te9 fo9 so9 _ _ hT9 hD9 hS9 (by first | omega | assumption | rfl) (by first | exact (kn_t1 hzl (Int32.not_le.mp zc39) (Int32.not_le.mp zc49) (Int64.not_le.mp zc96)).1 | exact (kn_f1 hbs hzl (fun q => absurd q.1 (Int32.not_lt.mpr zc39))).1 | exact (kn_f1 hbs hzl (fun q => absurd q.2.1 (Int32.not_lt.mpr zc49))).1 | exact (kn_f1 hbs hzl (fun q => absurd q.2.2 (Int64.not_lt.mpr zc96))).1) (by first | exact (kn_t1 hzl (Int32.not_le.mp zc39) (Int32.not_le.mp zc49) (Int64.not_le.mp zc96)).2 | exact (kn_f1 hbs hzl (fun q => absurd q.1 (Int32.not_lt.mpr zc39))).2 | exact (kn_f1 hbs hzl (fun q => absurd q.2.1 (Int32.not_lt.mpr zc49))).2 | exact (kn_f1 hbs hzl (fun q => absurd q.2.2 (Int64.not_lt.mpr zc96))).2) (by omega) ls (lv_sub hl [0, 1, 2, 3, 4, 5, 6, 7] rfl)
          · refine lv_aload_n hx hb dX4_nearestCutOff_52 rfl (lvG hl rfl) ?_
            refine lv_iload_n hx hb dX4_nearestCutOff_53 rfl (lvG hl rfl) ?_
            refine lv_iload hx hb dX4_nearestCutOff_54 (lvG hl rfl) ?_
            refine k_callMI0 (k_goV (rest := []) hC hK (c_X4_areaWith1 l g x a n f cn rf (nI (zz + 1))) L_X4_X4_areaWithCutOff (⟨⟨Nat.le_of_ble_eq_true rfl, Nat.le_of_ble_eq_true rfl⟩, ⟨rfl, rfl⟩, ⟨Nat.le_of_ble_eq_true rfl, Nat.le_of_ble_eq_true rfl⟩⟩) (k_recv hK hB9.1 0 rfl rfl) (⟨hB9, ⟨tr9, te9, fo9, so9, hT9, hD9⟩⟩) rfl hl.1 rfl (Nat.le_of_ble_eq_true rfl) dX4_nearestCutOff_56) hS9 (fun _ h => h) (fun r_ H_4 locs_5 hQ_6 hz_ hk_8 hS_7 => ?_)
            obtain ⟨e_9, tr_12, te_13, fo_14, so_15, hT_10, hD_11⟩ := hQ_6
            subst e_9
            have hB_16 : XB g x a n f cn rf H_4 := hB.at hS_7
            refine lv_istore (lv' := [(10, .int ((s_ar (k_ic f 12 (nI (zz + 1))) 20))), (9, .int (nI (zz + 1))), (7, .long (zl)), (6, .int (bs)), (5, .ref (a 2)), (0, .ref (x 0)), (1, .int (nI 1)), (2, .long (zw)), (4, .int (nI 1))]) hx hb dX4_nearestCutOff_59 hl (by decide) rfl (fun ls hl => ?_)
            refine lv_iload hx hb dX4_nearestCutOff_61 (lvG hl rfl) ?_
            refine n_if_eq (tgt := 78) hC dX4_nearestCutOff_63 (by decide) (by decide) (fun c => absurd c (by decide)) (fun _ => ?_)
            refine lv_aload_n hx hb dX4_nearestCutOff_66 rfl (lvG hl rfl) ?_
            refine lv_iload hx hb dX4_nearestCutOff_67 (lvG hl rfl) ?_
            refine lv_iload_n hx hb dX4_nearestCutOff_69 rfl (lvG hl rfl) ?_
            refine lv_bipush (v := nI 60) hx hb dX4_nearestCutOff_70 (by decide) ?_
            refine k_callPL (k_goV (rest := []) hC hK (c_X4_powerFrom l g x a n f cn rf hc hcn ((s_ar (k_ic f 12 (nI (zz + 1))) 20)) 1 (nI 60) (by decide)) L_X4_X4_powerFrom (⟨⟨Nat.le_of_ble_eq_true rfl, Nat.le_of_ble_eq_true rfl⟩, ⟨rfl, rfl⟩, ⟨Nat.le_of_ble_eq_true rfl, Nat.le_of_ble_eq_true rfl⟩⟩) (k_recv hK hB_16.1 0 rfl rfl) (hB_16) rfl hl.1 rfl (Nat.le_of_ble_eq_true rfl) dX4_nearestCutOff_72) ?_
            refine lv_goto (tgt := 81) hx hb dX4_nearestCutOff_75 (by decide) ?_
            refine lv_lstore (lv' := [(11, .long (s_pw f ((s_ar (k_ic f 12 (nI (zz + 1))) 20)) 1 (nI 60))), (10, .int ((s_ar (k_ic f 12 (nI (zz + 1))) 20))), (9, .int (nI (zz + 1))), (7, .long (zl)), (6, .int (bs)), (5, .ref (a 2)), (0, .ref (x 0)), (1, .int (nI 1)), (2, .long (zw)), (4, .int (nI 1))]) hx hb dX4_nearestCutOff_81 hl (by decide) rfl (fun ls hl => ?_)
            refine lv_lload hx hb dX4_nearestCutOff_83 (lvG hl rfl) ?_
            refine lv_lload_n hx hb dX4_nearestCutOff_85 rfl (lvG hl rfl) ?_
            refine lv_lsub hx hb dX4_nearestCutOff_86 ?_
            refine va_mabs_long hx hb (hml.trans hl.1.symm) hown (hts _ w_509) (hts _ w_510) (hts _ w_31) (hts _ w_511) (Nat.le_of_ble_eq_true rfl) (Nat.le_of_ble_eq_true rfl) (Nat.le_of_ble_eq_true rfl) (Nat.le_of_ble_eq_true rfl) dX4_nearestCutOff_87 ?_
            rw [abs_l]
            rw [show (s_abl ((s_pw f ((s_ar (k_ic f 12 (nI (zz + 1))) 20)) 1 (nI 60)) - zw)) = D (nI (zz + 1)) from (hDd (nI (zz + 1))).symm]
            refine lv_lstore (lv' := [(13, .long (D (nI (zz + 1)))), (11, .long (s_pw f ((s_ar (k_ic f 12 (nI (zz + 1))) 20)) 1 (nI 60))), (10, .int ((s_ar (k_ic f 12 (nI (zz + 1))) 20))), (9, .int (nI (zz + 1))), (7, .long (zl)), (6, .int (bs)), (5, .ref (a 2)), (0, .ref (x 0)), (1, .int (nI 1)), (2, .long (zw)), (4, .int (nI 1))]) hx hb dX4_nearestCutOff_90 hl (by decide) rfl (fun ls hl => ?_)
            refine lv_lload hx hb dX4_nearestCutOff_92 (lvG hl rfl) ?_
            refine lv_lload hx hb dX4_nearestCutOff_94 (lvG hl rfl) ?_
            refine j_lge (tgt := 108) hC dX4_nearestCutOff_96 dX4_nearestCutOff_97 (by decide) (fun zc96 => ?_) (fun zc96 => ?_)
            · refine n_iinc (lv' := [(9, .int (nI (zz + 1 + 1))), (13, .long (D (nI (zz + 1)))), (11, .long (s_pw f ((s_ar (k_ic f 12 (nI (zz + 1))) 20)) 1 (nI 60))), (10, .int ((s_ar (k_ic f 12 (nI (zz + 1))) 20))), (7, .long (zl)), (6, .int (bs)), (5, .ref (a 2)), (0, .ref (x 0)), (1, .int (nI 1)), (2, .long (zw)), (4, .int (nI 1))]) hC dX4_nearestCutOff_108 hl rfl (by decide) rfl (fun ls hl => ?_)
              refine lv_goto (tgt := 25) hx hb dX4_nearestCutOff_111 (by decide) ?_
              exact ih_3 (zz + 1) zl bs tr_12 te_13 fo_14 so_15 _ _ hT_10 hD_11 hS_7 (by first | omega | assumption | rfl) (by first | exact (kn_t1 hzl (Int32.not_le.mp zc39) (Int32.not_le.mp zc49) (Int64.not_le.mp zc96)).1 | exact (kn_f1 hbs hzl (fun q => absurd q.1 (Int32.not_lt.mpr zc39))).1 | exact (kn_f1 hbs hzl (fun q => absurd q.2.1 (Int32.not_lt.mpr zc49))).1 | exact (kn_f1 hbs hzl (fun q => absurd q.2.2 (Int64.not_lt.mpr zc96))).1) (by first | exact (kn_t1 hzl (Int32.not_le.mp zc39) (Int32.not_le.mp zc49) (Int64.not_le.mp zc96)).2 | exact (kn_f1 hbs hzl (fun q => absurd q.1 (Int32.not_lt.mpr zc39))).2 | exact (kn_f1 hbs hzl (fun q => absurd q.2.1 (Int32.not_lt.mpr zc49))).2 | exact (kn_f1 hbs hzl (fun q => absurd q.2.2 (Int64.not_lt.mpr zc96))).2) (by omega) ls (lv_sub hl [0, 4, 5, 6, 7, 8, 9, 10] rfl)
            · refine lv_lload hx hb dX4_nearestCutOff_100 (lvG hl rfl) ?_
              refine lv_lstore (lv' := [(7, .long (D (nI (zz + 1)))), (13, .long (D (nI (zz + 1)))), (11, .long (s_pw f ((s_ar (k_ic f 12 (nI (zz + 1))) 20)) 1 (nI 60))), (10, .int ((s_ar (k_ic f 12 (nI (zz + 1))) 20))), (9, .int (nI (zz + 1))), (6, .int (bs)), (5, .ref (a 2)), (0, .ref (x 0)), (1, .int (nI 1)), (2, .long (zw)), (4, .int (nI 1))]) hx hb dX4_nearestCutOff_102 hl (by decide) rfl (fun ls hl => ?_)
              refine lv_iload hx hb dX4_nearestCutOff_104 (lvG hl rfl) ?_
              refine lv_istore (lv' := [(6, .int (nI (zz + 1))), (7, .long (D (nI (zz + 1)))), (13, .long (D (nI (zz + 1)))), (11, .long (s_pw f ((s_ar (k_ic f 12 (nI (zz + 1))) 20)) 1 (nI 60))), (10, .int ((s_ar (k_ic f 12 (nI (zz + 1))) 20))), (9, .int (nI (zz + 1))), (5, .ref (a 2)), (0, .ref (x 0)), (1, .int (nI 1)), (2, .long (zw)), (4, .int (nI 1))]) hx hb dX4_nearestCutOff_106 hl (by decide) rfl (fun ls hl => ?_)
              refine n_iinc (lv' := [(9, .int (nI (zz + 1 + 1))), (6, .int (nI (zz + 1))), (7, .long (D (nI (zz + 1)))), (13, .long (D (nI (zz + 1)))), (11, .long (s_pw f ((s_ar (k_ic f 12 (nI (zz + 1))) 20)) 1 (nI 60))), (10, .int ((s_ar (k_ic f 12 (nI (zz + 1))) 20))), (5, .ref (a 2)), (0, .ref (x 0)), (1, .int (nI 1)), (2, .long (zw)), (4, .int (nI 1))]) hC dX4_nearestCutOff_108 hl rfl (by decide) rfl (fun ls hl => ?_)
              refine lv_goto (tgt := 25) hx hb dX4_nearestCutOff_111 (by decide) ?_
              exact ih_3 (zz + 1) (D (nI (zz + 1))) (nI (zz + 1)) tr_12 te_13 fo_14 so_15 _ _ hT_10 hD_11 hS_7 (by first | omega | assumption | rfl) (by first | exact (kn_t1 hzl (Int32.not_le.mp zc39) (Int32.not_le.mp zc49) (Int64.not_le.mp zc96)).1 | exact (kn_f1 hbs hzl (fun q => absurd q.1 (Int32.not_lt.mpr zc39))).1 | exact (kn_f1 hbs hzl (fun q => absurd q.2.1 (Int32.not_lt.mpr zc49))).1 | exact (kn_f1 hbs hzl (fun q => absurd q.2.2 (Int64.not_lt.mpr zc96))).1) (by first | exact (kn_t1 hzl (Int32.not_le.mp zc39) (Int32.not_le.mp zc49) (Int64.not_le.mp zc96)).2 | exact (kn_f1 hbs hzl (fun q => absurd q.1 (Int32.not_lt.mpr zc39))).2 | exact (kn_f1 hbs hzl (fun q => absurd q.2.1 (Int32.not_lt.mpr zc49))).2 | exact (kn_f1 hbs hzl (fun q => absurd q.2.2 (Int64.not_lt.mpr zc96))).2) (by omega) ls (lv_sub hl [0, 2, 1, 6, 7, 8, 9, 10] rfl)
  exact key_1 ((18 - 0) + 1) 0 ((9223372036854775807 : Int64)) (f 13) tr te fo so _ _ hT hD hS (by first | rfl | omega | assumption) ((congrArg Prod.snd kn_0).symm) ((congrArg Prod.fst kn_0).symm) (Nat.lt_succ_self _) ls (lv_sub hl [0, 1, 2, 3, 4, 5, 6, 7] rfl)
def k_dA (f : Nat → Int32) (vb : Nat) (zw : Int64) (co : Int32) : Int64 := s_abl ((s_ar (k_ic f vb co) 20).toInt64 - zw)
def k_dP (f : Nat → Int32) (vb en : Nat) (zw : Int64) (co : Int32) : Int64 := s_abl (s_pw f (s_ar (k_ic f vb co) 20) en (nI 60) - zw)
def k_bco (f : Nat → Int32) (en wa : Int32) : Int32 := if (nI 0 ≤ en ∧ en ≤ nI 1) ∧ ((-200000 : Int32) ≤ wa ∧ wa ≤ nI 200000) then (k_nc (f (8 + 4 * en.toNatClampNeg)) (f (8 + 4 * en.toNatClampNeg + 2)) (f (8 + 4 * en.toNatClampNeg + 1)) (k_dA f (8 + 4 * en.toNatClampNeg) wa.toInt64) 18).2 else cINV
theorem bco_n {f : Nat → Int32} {en wa : Int32} (h : ¬ ((nI 0 ≤ en ∧ en ≤ nI 1) ∧ ((-200000 : Int32) ≤ wa ∧ wa ≤ nI 200000))) : cINV = k_bco f en wa := (if_neg h).symm
theorem bco_0 {f : Nat → Int32} {en wa : Int32} (h : (nI 0 ≤ en ∧ en ≤ nI 1) ∧ ((-200000 : Int32) ≤ wa ∧ wa ≤ nI 200000)) (h2 : en = nI 0) : (k_nc (f 8) (f 10) (f 9) (k_dA f 8 wa.toInt64) 18).2 = k_bco f en wa := by
  subst h2
  unfold k_bco
  rw [if_pos h, show (nI 0).toNatClampNeg = 0 from rfl]
theorem bco_1 {f : Nat → Int32} {en wa : Int32} (h : (nI 0 ≤ en ∧ en ≤ nI 1) ∧ ((-200000 : Int32) ≤ wa ∧ wa ≤ nI 200000)) (h2 : en = nI 1) : (k_nc (f 12) (f 14) (f 13) (k_dA f 12 wa.toInt64) 18).2 = k_bco f en wa := by
  subst h2
  unfold k_bco
  rw [if_pos h, show (nI 1).toNatClampNeg = 1 from rfl]
def k_bal (f : Nat → Int32) : Int32 := (k_nc (f 12) (f 14) (f 13) (k_dP f 12 1 (s_pw f (s_ar (k_ic f 8 (f 9)) 20) 0 (nI 60))) 18).2
theorem L_X4_X4_nearestCutOff : LnkV RX4 273 yX4_nearestCutOff cX4_nearestCutOff 15 (some .int) 3 := ⟨w_517, w_519, w_21, w_25, w_520, ⟨by decide +kernel, by decide +kernel⟩, by decide +kernel⟩
set_option maxHeartbeats 4000000 in
set_option maxRecDepth 100000 in
theorem c_X4_balancingCutOff (l : Launch) (g : kG) (x : Nat → Nat) (a : Nat → Nat) (n : Nat) (f : Nat → Int32) (cn : Nat) (rf : Nat → Option Nat) (hc : f 61 = nI cn) (hcn : cn ≤ 10) : MI l yX4_balancingCutOff cX4_balancingCutOff 3 (some .int) (rr 6 151) [.ref (x 0)] ((fun H => XB g x a n f cn rf H ∧ XS g x H)) g 0 0 (SC x) (fun r H1 => r = k_bal f ∧ XS g x H1) := by
  refine kOf (by decide) (Nat.le_of_ble_eq_true rfl) (fun p e s m below meth c ls hC hr hlk hin hK hP hl => ?_)
  have hx := hC.1
  have hb := hC.2.1
  have hml := hC.2.2.1
  have hown := hC.2.2.2.1
  have hts := hC.2.2.2.2
  have hl : lv_has ls 3 [(0, .ref (x 0))] := hl
  obtain ⟨hB, ⟨tr, te, fo, so, hT, hD⟩⟩ := hP
  have hS : va_S (SC x) s.heap s.heap [] := va_S.rf
  refine lv_aload_n hx hb dX4_balancingCutOff_0 rfl (lvG hl rfl) ?_
  refine lv_aload_n hx hb dX4_balancingCutOff_1 rfl (lvG hl rfl) ?_
  refine lv_iconst (v := nI 0) hx hb dX4_balancingCutOff_2 (by decide) ?_
  refine lv_aload_n hx hb dX4_balancingCutOff_3 rfl (lvG hl rfl) ?_
  refine va_get (D := g.1) (ci := 4) (v := .ref (a 0)) (C := RX4) (T := TX4) (N := 7) hx hb hts i_X4 hown hK.1 hB.1 0 rfl rfl 0 (by decide) (hts _ w_175) (fun _ h9 => h9) rfl dX4_balancingCutOff_4 ?_
  refine va_get (D := g.1) (ci := 3) (v := .ref (a 1)) (C := RX3) (T := TX3) (N := 13) hx hb hts i_X3 hown hK.1 hB.1 1 rfl rfl 8 (by decide) (hts _ w_139) (fun _ h9 => h9) rfl dX4_balancingCutOff_7 ?_
  refine va_get (D := g.1) (ci := 2) (v := .int (f 9)) (C := RX2) (T := TX2) (N := 4) hx hb hts i_X2 hown hK.1 hB.1 2 rfl rfl 1 (by decide) (hts _ w_71) (fun _ h9 => h9) rfl dX4_balancingCutOff_10 ?_
  refine k_callMI0 (k_goV (rest := [.ref (x 0)]) hC hK (c_X4_areaWith0 l g x a n f cn rf (f 9)) L_X4_X4_areaWithCutOff (⟨⟨Nat.le_of_ble_eq_true rfl, Nat.le_of_ble_eq_true rfl⟩, ⟨rfl, rfl⟩, ⟨Nat.le_of_ble_eq_true rfl, Nat.le_of_ble_eq_true rfl⟩⟩) (k_recv hK hB.1 0 rfl rfl) (⟨hB, ⟨tr, te, fo, so, hT, hD⟩⟩) rfl hl.1 rfl (Nat.le_of_ble_eq_true rfl) dX4_balancingCutOff_13) hS (fun _ h => h) (fun r_ H_1 locs_2 hQ_3 hz_ hk_5 hS_4 => ?_)
  obtain ⟨e_6, tr_9, te_10, fo_11, so_12, hT_7, hD_8⟩ := hQ_3
  subst e_6
  have hB_13 : XB g x a n f cn rf H_1 := hB.at hS_4
  refine lv_iconst (v := nI 0) hx hb dX4_balancingCutOff_16 (by decide) ?_
  refine lv_bipush (v := nI 60) hx hb dX4_balancingCutOff_17 (by decide) ?_
  refine k_callPL (k_goV (rest := []) hC hK (c_X4_powerFrom l g x a n f cn rf hc hcn ((s_ar (k_ic f 8 (f 9)) 20)) 0 (nI 60) (by decide)) L_X4_X4_powerFrom (⟨⟨Nat.le_of_ble_eq_true rfl, Nat.le_of_ble_eq_true rfl⟩, ⟨rfl, rfl⟩, ⟨Nat.le_of_ble_eq_true rfl, Nat.le_of_ble_eq_true rfl⟩⟩) (k_recv hK hB_13.1 0 rfl rfl) (hB_13) rfl hl.1 rfl (Nat.le_of_ble_eq_true rfl) dX4_balancingCutOff_19) ?_
  refine lv_lstore_n (lv' := [(1, .long (s_pw f ((s_ar (k_ic f 8 (f 9)) 20)) 0 (nI 60))), (0, .ref (x 0))]) hx hb dX4_balancingCutOff_22 rfl hl (by decide) rfl (fun ls hl => ?_)
  refine lv_aload_n hx hb dX4_balancingCutOff_23 rfl (lvG hl rfl) ?_
  refine lv_iconst (v := nI 1) hx hb dX4_balancingCutOff_24 (by decide) ?_
  refine lv_lload_n hx hb dX4_balancingCutOff_25 rfl (lvG hl rfl) ?_
  refine lv_iconst (v := nI 1) hx hb dX4_balancingCutOff_26 (by decide) ?_
  refine k_callMI0 (k_goV (rest := []) hC hK (c_X4_nearest2 l g x a n f cn rf hc hcn (s_pw f ((s_ar (k_ic f 8 (f 9)) 20)) 0 (nI 60)) (k_dP f 12 1 (s_pw f (s_ar (k_ic f 8 (f 9)) 20) 0 (nI 60))) (fun _ => rfl)) L_X4_X4_nearestCutOff (⟨⟨Nat.le_of_ble_eq_true rfl, Nat.le_of_ble_eq_true rfl⟩, ⟨rfl, rfl⟩, ⟨Nat.le_of_ble_eq_true rfl, Nat.le_of_ble_eq_true rfl⟩⟩) (k_recv hK hB_13.1 0 rfl rfl) (⟨hB_13, ⟨tr_9, te_10, fo_11, so_12, hT_7, hD_8⟩⟩) rfl hl.1 rfl (Nat.le_of_ble_eq_true rfl) dX4_balancingCutOff_27) hS_4 (fun _ h => h) (fun r_ H_14 locs_15 hQ_16 hz_ hk_18 hS_17 => ?_)
  obtain ⟨e_19, tr_22, te_23, fo_24, so_25, hT_20, hD_21⟩ := hQ_16
  subst e_19
  have hB_26 : XB g x a n f cn rf H_14 := hB.at hS_17
  exact k_iretM hC hr hlk hS_17 dX4_balancingCutOff_30 (⟨rfl, XTS ⟨hT_20, hD_21⟩⟩)
