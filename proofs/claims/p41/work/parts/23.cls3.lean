set_option maxHeartbeats 4000000 in
set_option maxRecDepth 100000 in
theorem c_X4_isCard (l : Launch) (g : kG) (x : Nat → Nat) (a : Nat → Nat) (n : Nat) (f : Nat → Int32) (cn : Nat) (rf : Nat → Option Nat) (hc : f 61 = nI cn) (hcn : cn ≤ 10) (v : Int32) : PI l yX4_isCard cX4_isCard 2 (some .boolean) (rr 0 0) [.ref (x 0), .int (v)] ((XB g x a n f cn rf)) g (if s_okC f v then 1 else 0) := by
  refine kOf (by decide) (Nat.le_of_ble_eq_true rfl) (fun p e s m below meth c ls hC hr hlk hin hK hP hl => ?_)
  have hx := hC.1
  have hb := hC.2.1
  have hml := hC.2.2.1
  have hown := hC.2.2.2.1
  have hts := hC.2.2.2.2
  have hl : lv_has ls 2 [(0, .ref (x 0)), (1, .int (v))] := hl
  refine lv_iload_n hx hb dX4_isCard_0 rfl (lvG hl rfl) ?_
  refine z_if_lt (tgt := 19) hC dX4_isCard_1 (by decide) (fun zc1 => ?_) (fun zc1 => ?_)
  · refine lv_iconst (v := nI 0) hx hb dX4_isCard_19 (by decide) ?_
    exact k_zret hC hr hlk dX4_isCard_20 k_nar0 (by first | (rw [if_pos ((okC_iff hcn hc).mp ⟨Int32.not_lt.mp zc1, Int32.not_le.mp zc12⟩)]; rfl) | (rw [if_neg (fun q => absurd ((okC_iff hcn hc).mpr q).1 (Int32.not_le.mpr zc1))]; rfl) | (rw [if_neg (fun q => absurd ((okC_iff hcn hc).mpr q).2 (Int32.not_lt.mpr zc12))]; rfl))
  · refine lv_iload_n hx hb dX4_isCard_4 rfl (lvG hl rfl) ?_
    refine lv_aload_n hx hb dX4_isCard_5 rfl (lvG hl rfl) ?_
    refine va_get (D := g.1) (ci := 4) (v := .ref (a 0)) (C := RX4) (T := TX4) (N := 7) hx hb hts i_X4 hown hK.1 hP.1 0 rfl rfl 0 (by decide) (hts _ w_175) (fun _ h9 => h9) rfl dX4_isCard_6 ?_
    refine va_get (D := g.1) (ci := 3) (v := .int (f 61)) (C := RX3) (T := TX3) (N := 13) hx hb hts i_X3 hown hK.1 hP.1 1 rfl rfl 12 (by decide) (hts _ w_146) (fun _ h9 => h9) rfl dX4_isCard_9 ?_
    refine lv_icmp_ge (tgt := 19) hx hb dX4_isCard_12 (by decide) (fun zc12 => ?_) (fun zc12 => ?_)
    · refine lv_iconst (v := nI 0) hx hb dX4_isCard_19 (by decide) ?_
      exact k_zret hC hr hlk dX4_isCard_20 k_nar0 (by first | (rw [if_pos ((okC_iff hcn hc).mp ⟨Int32.not_lt.mp zc1, Int32.not_le.mp zc12⟩)]; rfl) | (rw [if_neg (fun q => absurd ((okC_iff hcn hc).mpr q).1 (Int32.not_le.mpr zc1))]; rfl) | (rw [if_neg (fun q => absurd ((okC_iff hcn hc).mpr q).2 (Int32.not_lt.mpr zc12))]; rfl))
    · refine lv_iconst (v := nI 1) hx hb dX4_isCard_15 (by decide) ?_
      refine lv_goto (tgt := 20) hx hb dX4_isCard_16 (by decide) ?_
      exact k_zret hC hr hlk dX4_isCard_20 k_nar1 (by first | (rw [if_pos ((okC_iff hcn hc).mp ⟨Int32.not_lt.mp zc1, Int32.not_le.mp zc12⟩)]; rfl) | (rw [if_neg (fun q => absurd ((okC_iff hcn hc).mpr q).1 (Int32.not_le.mpr zc1))]; rfl) | (rw [if_neg (fun q => absurd ((okC_iff hcn hc).mpr q).2 (Int32.not_lt.mpr zc12))]; rfl))
theorem L_X4_X3_volumeAt : LnkV RX4 311 yX3_volumeAt cX3_volumeAt 2 (some .int) 1 := ⟨w_317, w_318, w_319, w_28, w_320, ⟨by decide +kernel, by decide +kernel⟩, by decide +kernel⟩
set_option maxHeartbeats 4000000 in
set_option maxRecDepth 100000 in
theorem c_X4_constantAt (l : Launch) (g : kG) (x : Nat → Nat) (a : Nat → Nat) (n : Nat) (f : Nat → Int32) (cn : Nat) (rf : Nat → Option Nat) (qc : Nat) (qo : Nat) (qi : Nat) (e0 : Int32) (sp : Int32) (p0 : Nat → Int32) (st : Nat) (hst : st < 21) : PI l yX4_constantAt cX4_constantAt 3 (some .int) (rr 1 21) [.ref (x 0), .ref qc, .int (nI st)] ((fun H => XB g x a n f cn rf H ∧ va_P g.1 kCl (wC g qc qo qi e0 sp p0) H)) g (s_kc f p0 st) := by
  refine kOf (by decide) (Nat.le_of_ble_eq_true rfl) (fun p e s m below meth c ls hC hr hlk hin hK hP hl => ?_)
  have hx := hC.1
  have hb := hC.2.1
  have hml := hC.2.2.1
  have hown := hC.2.2.2.1
  have hts := hC.2.2.2.2
  have hl : lv_has ls 3 [(0, .ref (x 0)), (1, .ref qc), (2, .int (nI st))] := hl
  refine lv_aload_n hx hb dX4_constantAt_0 rfl (lvG hl rfl) ?_
  refine va_get (D := g.1) (ci := 0) (v := .ref qo) (C := RX0) (T := TX0) (N := 4) hx hb hts i_X0 hown hK.1 hP.2 0 rfl rfl 2 (by decide) (hts _ w_49) (fun _ h9 => h9) rfl dX4_constantAt_1 ?_
  refine lv_iload_n hx hb dX4_constantAt_4 rfl (lvG hl rfl) ?_
  refine k_ald (k := st) hC hK hP.2 1 rfl (by omega) (by decide) dX4_constantAt_5 ?_
  refine lv_aload_n hx hb dX4_constantAt_6 rfl (lvG hl rfl) ?_
  refine va_get (D := g.1) (ci := 4) (v := .ref (a 0)) (C := RX4) (T := TX4) (N := 7) hx hb hts i_X4 hown hK.1 hP.1.1 0 rfl rfl 0 (by decide) (hts _ w_175) (fun _ h9 => h9) rfl dX4_constantAt_7 ?_
  refine lv_iload_n hx hb dX4_constantAt_10 rfl (lvG hl rfl) ?_
  refine k_callPI (k_goV (rest := [.int (p0 st)]) hC hK (c_X3_volumeAt l g a f (nI st)) L_X4_X3_volumeAt (⟨⟨Nat.le_of_ble_eq_true rfl, Nat.le_of_ble_eq_true rfl⟩, ⟨rfl, rfl⟩, ⟨Nat.le_of_ble_eq_true rfl, Nat.le_of_ble_eq_true rfl⟩⟩) (k_recv hK hP.1.1 1 rfl rfl) ((hP.1.1.sub [1] rfl)) rfl hl.1 rfl (Nat.le_of_ble_eq_true rfl) dX4_constantAt_11) ?_
  refine lv_imul hx hb dX4_constantAt_14 ?_
  exact k_iret hC hr hlk dX4_constantAt_15 (by first | rfl | grind [] | grind [nI])
theorem L_X4_X4_greatestOf : LnkS RX4 332 yX4_greatestOf cX4_greatestOf 3 (some .int) 1 := ⟨w_365, w_366, w_25, w_367, ⟨by decide +kernel, by decide +kernel⟩, by decide +kernel⟩
set_option maxHeartbeats 4000000 in
set_option maxRecDepth 100000 in
theorem c_X4_findAdmission (l : Launch) (g : kG) (x : Nat → Nat) (a : Nat → Nat) (n : Nat) (f : Nat → Int32) (cn : Nat) (rf : Nat → Option Nat) (y : Nat) (h : Nat → Int32) (hx0 : s_ad f h ≤ 20) : PI l yX4_findAdmission cX4_findAdmission 4 (some .int) (rr 2 43) [.ref (x 0), .ref y] ((fun H => XB g x a n f cn rf H ∧ va_P g.1 kCl [cI g y 21 h] H)) g (nI (s_ad f h)) := by
  refine kOf (by decide) (Nat.le_of_ble_eq_true rfl) (fun p e s m below meth c ls hC hr hlk hin hK hP hl => ?_)
  have hx := hC.1
  have hb := hC.2.1
  have hml := hC.2.2.1
  have hown := hC.2.2.2.1
  have hts := hC.2.2.2.2
  have hl : lv_has ls 4 [(0, .ref (x 0)), (1, .ref y)] := hl
  refine lv_aload_n hx hb dX4_findAdmission_0 rfl (lvG hl rfl) ?_
  refine k_callPI (k_goS (rest := []) hC hK (c_X4_greatestOf l g y h) L_X4_X4_greatestOf (⟨⟨Nat.le_of_ble_eq_true rfl, Nat.le_of_ble_eq_true rfl⟩, ⟨rfl, rfl⟩, ⟨Nat.le_of_ble_eq_true rfl, Nat.le_of_ble_eq_true rfl⟩⟩) (hP.2) rfl hl.1 rfl (Nat.le_of_ble_eq_true rfl) dX4_findAdmission_1) ?_
  refine lv_aload_n hx hb dX4_findAdmission_4 rfl (lvG hl rfl) ?_
  refine va_get (D := g.1) (ci := 4) (v := .ref (a 0)) (C := RX4) (T := TX4) (N := 7) hx hb hts i_X4 hown hK.1 hP.1.1 0 rfl rfl 0 (by decide) (hts _ w_175) (fun _ h9 => h9) rfl dX4_findAdmission_5 ?_
  refine va_get (D := g.1) (ci := 3) (v := .int (f 6)) (C := RX3) (T := TX3) (N := 13) hx hb hts i_X3 hown hK.1 hP.1.1 1 rfl rfl 6 (by decide) (hts _ w_135) (fun _ h9 => h9) rfl dX4_findAdmission_8 ?_
  refine lv_isub hx hb dX4_findAdmission_11 ?_
  refine lv_topi (fun bd ebd => ?_)
  refine lv_istore_n (lv' := [(2, .int (bd)), (0, .ref (x 0)), (1, .ref y)]) hx hb dX4_findAdmission_12 rfl hl (by decide) rfl (fun ls hl => ?_)
  refine lv_iconst (v := nI 0) hx hb dX4_findAdmission_13 (by decide) ?_
  refine lv_istore_n (lv' := [(3, .int (nI 0)), (2, .int (bd)), (0, .ref (x 0)), (1, .ref y)]) hx hb dX4_findAdmission_14 rfl hl (by decide) rfl (fun ls hl => ?_)
  have key_1 : ∀ (k_2 : Nat) (i : Nat)  (hi : i ≤ 20) (hs : s_fw h bd (21 - i) i = s_ad f h) (hk_k_2 : 21 - i < k_2) (ls : Array Slot) (hl : lv_has ls 4 [(3, .int (nI i)), (2, .int (bd)), (0, .ref (x 0)), (1, .ref y)]), W p l e (rr 2 43) s m [.ref (x 0), .ref y].toArray below meth c s.heap [] 0 0 (MQ below (vp_Si (fun r => r = nI (s_ad f h))) [.ref (x 0), .ref y].toArray s 0 0 (fun _ => False)) (F0 m 15 ls ([])) := by
    intro k_2
    induction k_2 with
    | zero => intro i hi hs hk_k_2 ls hl; exact absurd hk_k_2 (Nat.not_lt_zero _)
    | succ k_2 ih_3 =>
      intro i hi hs hk_k_2 ls hl
      have hu : s_fw h bd (21 - i) i = s_fw h bd ((20 - i) + 1) i := by rw [show 21 - i = (20 - i) + 1 by omega]
      refine lv_iload_n hx hb dX4_findAdmission_15 rfl (lvG hl rfl) ?_
      refine lv_bipush (v := nI 20) hx hb dX4_findAdmission_16 (by decide) ?_
      refine n_icmp_ge (tgt := 34) hC dX4_findAdmission_18 (by omega) (by omega) (by decide) (fun zc18 => ?_) (fun zc18 => ?_)
      · refine lv_iload_n hx hb dX4_findAdmission_34 rfl (lvG hl rfl) ?_
        exact k_iret hC hr hlk dX4_findAdmission_35 (by first | (rw [← hs, hu, s_fw_f (Int32.not_lt.mpr zc25)]; done) | (have e20 : i = 20 := (by omega); subst e20; by_cases q0 : h 20 < bd; (have h1 : s_fw h bd 1 20 = s_ad f h := hs; rw [s_fw_t q0] at h1; have h2 : 21 = s_ad f h := h1; exact absurd hx0 (by rw [← h2]; decide)); (have h1 : s_fw h bd 1 20 = s_ad f h := hs; rw [s_fw_f q0] at h1; rw [← h1])))
      · refine lv_aload_n hx hb dX4_findAdmission_21 rfl (lvG hl rfl) ?_
        refine lv_iload_n hx hb dX4_findAdmission_22 rfl (lvG hl rfl) ?_
        refine k_ald (k := i) hC hK hP.2 0 rfl (by omega) (by decide) dX4_findAdmission_23 ?_
        refine lv_iload_n hx hb dX4_findAdmission_24 rfl (lvG hl rfl) ?_
        refine lv_icmp_ge (tgt := 34) hx hb dX4_findAdmission_25 (by decide) (fun zc25 => ?_) (fun zc25 => ?_)
        · refine lv_iload_n hx hb dX4_findAdmission_34 rfl (lvG hl rfl) ?_
          exact k_iret hC hr hlk dX4_findAdmission_35 (by first | (rw [← hs, hu, s_fw_f (Int32.not_lt.mpr zc25)]; done) | (have e20 : i = 20 := (by omega); subst e20; by_cases q0 : h 20 < bd; (have h1 : s_fw h bd 1 20 = s_ad f h := hs; rw [s_fw_t q0] at h1; have h2 : 21 = s_ad f h := h1; exact absurd hx0 (by rw [← h2]; decide)); (have h1 : s_fw h bd 1 20 = s_ad f h := hs; rw [s_fw_f q0] at h1; rw [← h1])))
        · refine n_iinc (lv' := [(3, .int (nI (i + 1))), (2, .int (bd)), (0, .ref (x 0)), (1, .ref y)]) hC dX4_findAdmission_28 hl rfl (by decide) rfl (fun ls hl => ?_)
          refine lv_goto (tgt := 15) hx hb dX4_findAdmission_31 (by decide) ?_
          exact ih_3 (i + 1)  (by first | omega | assumption | rfl) (by rw [show 21 - (i + 1) = 20 - i by omega, ← hs, hu, s_fw_t (Int32.not_le.mp zc25)]) (by omega) ls (lv_sub hl [0, 1, 2, 3] rfl)
  exact key_1 ((21 - 0) + 1) 0  (by first | rfl | omega | assumption) (by rw [ebd]; rfl) (Nat.lt_succ_self _) ls (lv_sub hl [0, 1, 2, 3] rfl)
set_option maxHeartbeats 4000000 in
set_option maxRecDepth 100000 in
theorem c_X4_findCutOff (l : Launch) (g : kG) (x : Nat → Nat) (a : Nat → Nat) (n : Nat) (f : Nat → Int32) (cn : Nat) (rf : Nat → Option Nat) (y : Nat) (h : Nat → Int32) (ad : Nat) (had : ad ≤ 20) : PI l yX4_findCutOff cX4_findCutOff 5 (some .int) (rr 2 43) [.ref (x 0), .ref y, .int (nI ad)] ((fun H => XB g x a n f cn rf H ∧ va_P g.1 kCl [cI g y 21 h] H)) g (nI (s_co h (s_bd f h) 20 ad)) := by
  refine kOf (by decide) (Nat.le_of_ble_eq_true rfl) (fun p e s m below meth c ls hC hr hlk hin hK hP hl => ?_)
  have hx := hC.1
  have hb := hC.2.1
  have hml := hC.2.2.1
  have hown := hC.2.2.2.1
  have hts := hC.2.2.2.2
  have hl : lv_has ls 5 [(0, .ref (x 0)), (1, .ref y), (2, .int (nI ad))] := hl
  refine lv_aload_n hx hb dX4_findCutOff_0 rfl (lvG hl rfl) ?_
  refine k_callPI (k_goS (rest := []) hC hK (c_X4_greatestOf l g y h) L_X4_X4_greatestOf (⟨⟨Nat.le_of_ble_eq_true rfl, Nat.le_of_ble_eq_true rfl⟩, ⟨rfl, rfl⟩, ⟨Nat.le_of_ble_eq_true rfl, Nat.le_of_ble_eq_true rfl⟩⟩) (hP.2) rfl hl.1 rfl (Nat.le_of_ble_eq_true rfl) dX4_findCutOff_1) ?_
  refine lv_aload_n hx hb dX4_findCutOff_4 rfl (lvG hl rfl) ?_
  refine va_get (D := g.1) (ci := 4) (v := .ref (a 0)) (C := RX4) (T := TX4) (N := 7) hx hb hts i_X4 hown hK.1 hP.1.1 0 rfl rfl 0 (by decide) (hts _ w_175) (fun _ h9 => h9) rfl dX4_findCutOff_5 ?_
  refine va_get (D := g.1) (ci := 3) (v := .int (f 6)) (C := RX3) (T := TX3) (N := 13) hx hb hts i_X3 hown hK.1 hP.1.1 1 rfl rfl 6 (by decide) (hts _ w_135) (fun _ h9 => h9) rfl dX4_findCutOff_8 ?_
  refine lv_isub hx hb dX4_findCutOff_11 ?_
  refine lv_topi (fun bd ebd => ?_)
  refine lv_istore_n (lv' := [(3, .int (bd)), (0, .ref (x 0)), (1, .ref y), (2, .int (nI ad))]) hx hb dX4_findCutOff_12 rfl hl (by decide) rfl (fun ls hl => ?_)
  refine lv_iload_n hx hb dX4_findCutOff_13 rfl (lvG hl rfl) ?_
  refine lv_istore (lv' := [(4, .int (nI ad)), (3, .int (bd)), (0, .ref (x 0)), (1, .ref y), (2, .int (nI ad))]) hx hb dX4_findCutOff_14 hl (by decide) rfl (fun ls hl => ?_)
  have key_1 : ∀ (k_2 : Nat) (i : Nat)  (hi : i ≤ 20) (hs : s_co h bd (20 - i) i = s_co h (s_bd f h) 20 ad) (hk_k_2 : 20 - i < k_2) (ls : Array Slot) (hl : lv_has ls 5 [(4, .int (nI i)), (3, .int (bd)), (0, .ref (x 0)), (1, .ref y), (2, .int (nI ad))]), W p l e (rr 2 43) s m [.ref (x 0), .ref y, .int (nI ad)].toArray below meth c s.heap [] 0 0 (MQ below (vp_Si (fun r => r = nI (s_co h (s_bd f h) 20 ad))) [.ref (x 0), .ref y, .int (nI ad)].toArray s 0 0 (fun _ => False)) (F0 m 16 ls ([])) := by
    intro k_2
    induction k_2 with
    | zero => intro i hi hs hk_k_2 ls hl; exact absurd hk_k_2 (Nat.not_lt_zero _)
    | succ k_2 ih_3 =>
      intro i hi hs hk_k_2 ls hl
      refine lv_iload hx hb dX4_findCutOff_16 (lvG hl rfl) ?_
      refine lv_bipush (v := nI 20) hx hb dX4_findCutOff_18 (by decide) ?_
      refine n_icmp_ge (tgt := 39) hC dX4_findCutOff_20 (by omega) (by omega) (by decide) (fun zc20 => ?_) (fun zc20 => ?_)
      · refine lv_iload hx hb dX4_findCutOff_39 (lvG hl rfl) ?_
        exact k_iret hC hr hlk dX4_findCutOff_41 (by rw [← hs, s_co_f (fun q => by first | omega | exact absurd q.2 (Int32.not_le.mpr zc30))])
      · refine lv_aload_n hx hb dX4_findCutOff_23 rfl (lvG hl rfl) ?_
        refine lv_iload hx hb dX4_findCutOff_24 (lvG hl rfl) ?_
        refine lv_iconst (v := nI 1) hx hb dX4_findCutOff_26 (by decide) ?_
        refine n_iadd hC dX4_findCutOff_27 ?_
        refine k_ald (k := i + 1) hC hK hP.2 0 rfl (by omega) (by decide) dX4_findCutOff_28 ?_
        refine lv_iload_n hx hb dX4_findCutOff_29 rfl (lvG hl rfl) ?_
        refine lv_icmp_lt (tgt := 39) hx hb dX4_findCutOff_30 (by decide) (fun zc30 => ?_) (fun zc30 => ?_)
        · refine lv_iload hx hb dX4_findCutOff_39 (lvG hl rfl) ?_
          exact k_iret hC hr hlk dX4_findCutOff_41 (by rw [← hs, s_co_f (fun q => by first | omega | exact absurd q.2 (Int32.not_le.mpr zc30))])
        · refine n_iinc (lv' := [(4, .int (nI (i + 1))), (3, .int (bd)), (0, .ref (x 0)), (1, .ref y), (2, .int (nI ad))]) hC dX4_findCutOff_33 hl rfl (by decide) rfl (fun ls hl => ?_)
          refine lv_goto (tgt := 16) hx hb dX4_findCutOff_36 (by decide) ?_
          exact ih_3 (i + 1)  (by first | omega | assumption | rfl) (by rw [← hs, show 20 - i = (20 - (i + 1)) + 1 by omega, s_co_t (by omega) (Int32.not_lt.mp zc30)]) (by omega) ls (lv_sub hl [0, 1, 2, 3, 4] rfl)
  exact key_1 ((20 - ad) + 1) ad  (by first | rfl | omega | assumption) (by rw [ebd]; exact s_co_fuel _ _ _ _ _ had (by omega) (by omega)) (Nat.lt_succ_self _) ls (lv_sub hl [0, 1, 2, 3, 4] rfl)
def k_re (f p : Nat → Int32) (cu : Nat) : Nat := if 20 < s_rl f p (s_kc f p cu * (nI 100 - f 7)) 21 (cu + 1) then 20 else s_rl f p (s_kc f p cu * (nI 100 - f 7)) 21 (cu + 1)
def k_cp (f h : Nat → Int32) : Nat := if 20 < s_cm h (s_mi h 20 + f 6) 21 then 20 else s_cm h (s_mi h 20 + f 6) 21
theorem L_X4_X4_constantAt : LnkV RX4 232 yX4_constantAt cX4_constantAt 3 (some .int) 2 := ⟨w_379, w_381, w_11, w_25, w_382, ⟨by decide +kernel, by decide +kernel⟩, by decide +kernel⟩
set_option maxHeartbeats 4000000 in
set_option maxRecDepth 100000 in
theorem c_X4_findRelease (l : Launch) (g : kG) (x : Nat → Nat) (a : Nat → Nat) (n : Nat) (f : Nat → Int32) (cn : Nat) (rf : Nat → Option Nat) (qc : Nat) (qo : Nat) (qi : Nat) (e0 : Int32) (sp : Int32) (p0 : Nat → Int32) (cu : Nat) (hcu : cu ≤ 20) : PI l yX4_findRelease cX4_findRelease 5 (some .int) (rr 2 43) [.ref (x 0), .ref qc, .int (nI cu)] ((fun H => XB g x a n f cn rf H ∧ va_P g.1 kCl (wC g qc qo qi e0 sp p0) H)) g (nI (k_re f p0 cu)) := by
  refine kOf (by decide) (Nat.le_of_ble_eq_true rfl) (fun p e s m below meth c ls hC hr hlk hin hK hP hl => ?_)
  have hx := hC.1
  have hb := hC.2.1
  have hml := hC.2.2.1
  have hown := hC.2.2.2.1
  have hts := hC.2.2.2.2
  have hl : lv_has ls 5 [(0, .ref (x 0)), (1, .ref qc), (2, .int (nI cu))] := hl
  refine lv_aload_n hx hb dX4_findRelease_0 rfl (lvG hl rfl) ?_
  refine lv_aload_n hx hb dX4_findRelease_1 rfl (lvG hl rfl) ?_
  refine lv_iload_n hx hb dX4_findRelease_2 rfl (lvG hl rfl) ?_
  refine k_callPI (k_goV (rest := []) hC hK (c_X4_constantAt l g x a n f cn rf qc qo qi e0 sp p0 cu (by first | assumption | omega)) L_X4_X4_constantAt (⟨⟨Nat.le_of_ble_eq_true rfl, Nat.le_of_ble_eq_true rfl⟩, ⟨rfl, rfl⟩, ⟨Nat.le_of_ble_eq_true rfl, Nat.le_of_ble_eq_true rfl⟩⟩) (k_recv hK hP.1.1 0 rfl rfl) (⟨hP.1, hP.2⟩) rfl hl.1 rfl (Nat.le_of_ble_eq_true rfl) dX4_findRelease_3) ?_
  refine lv_bipush (v := nI 100) hx hb dX4_findRelease_6 (by decide) ?_
  refine lv_aload_n hx hb dX4_findRelease_8 rfl (lvG hl rfl) ?_
  refine va_get (D := g.1) (ci := 4) (v := .ref (a 0)) (C := RX4) (T := TX4) (N := 7) hx hb hts i_X4 hown hK.1 hP.1.1 0 rfl rfl 0 (by decide) (hts _ w_175) (fun _ h9 => h9) rfl dX4_findRelease_9 ?_
  refine va_get (D := g.1) (ci := 3) (v := .int (f 7)) (C := RX3) (T := TX3) (N := 13) hx hb hts i_X3 hown hK.1 hP.1.1 1 rfl rfl 7 (by decide) (hts _ w_137) (fun _ h9 => h9) rfl dX4_findRelease_12 ?_
  refine lv_isub hx hb dX4_findRelease_15 ?_
  refine lv_imul hx hb dX4_findRelease_16 ?_
  refine lv_topi (fun bd ebd => ?_)
  refine lv_istore_n (lv' := [(3, .int (bd)), (0, .ref (x 0)), (1, .ref qc), (2, .int (nI cu))]) hx hb dX4_findRelease_17 rfl hl (by decide) rfl (fun ls hl => ?_)
  refine lv_iload_n hx hb dX4_findRelease_18 rfl (lvG hl rfl) ?_
  refine lv_iconst (v := nI 1) hx hb dX4_findRelease_19 (by decide) ?_
  refine n_iadd hC dX4_findRelease_20 ?_
  refine lv_istore (lv' := [(4, .int (nI (cu + 1))), (3, .int (bd)), (0, .ref (x 0)), (1, .ref qc), (2, .int (nI cu))]) hx hb dX4_findRelease_21 hl (by decide) rfl (fun ls hl => ?_)
  have key_1 : ∀ (k_2 : Nat) (i : Nat)  (hi : cu + 1 ≤ i ∧ i ≤ 21) (hs : s_rl f p0 bd (21 - i) i = s_rl f p0 (s_kc f p0 cu * (nI 100 - f 7)) 21 (cu + 1)) (hk_k_2 : 21 - i < k_2) (ls : Array Slot) (hl : lv_has ls 5 [(4, .int (nI i)), (3, .int (bd)), (0, .ref (x 0)), (1, .ref qc), (2, .int (nI cu))]), W p l e (rr 2 43) s m [.ref (x 0), .ref qc, .int (nI cu)].toArray below meth c s.heap [] 0 0 (MQ below (vp_Si (fun r => r = nI (k_re f p0 cu))) [.ref (x 0), .ref qc, .int (nI cu)].toArray s 0 0 (fun _ => False)) (F0 m 23 ls ([])) := by
    intro k_2
    induction k_2 with
    | zero => intro i hi hs hk_k_2 ls hl; exact absurd hk_k_2 (Nat.not_lt_zero _)
    | succ k_2 ih_3 =>
      intro i hi hs hk_k_2 ls hl
      refine lv_iload hx hb dX4_findRelease_23 (lvG hl rfl) ?_
      refine lv_bipush (v := nI 21) hx hb dX4_findRelease_25 (by decide) ?_
      refine n_icmp_ge (tgt := 53) hC dX4_findRelease_27 (by omega) (by omega) (by decide) (fun zc27 => ?_) (fun zc27 => ?_)
      · refine lv_bipush (v := nI 20) hx hb dX4_findRelease_53 (by decide) ?_
        exact k_iret hC hr hlk dX4_findRelease_55 (by unfold k_re; rw [← hs, s_rl_f (fun q => by omega), if_pos (by omega)])
      · refine lv_aload_n hx hb dX4_findRelease_30 rfl (lvG hl rfl) ?_
        refine lv_aload_n hx hb dX4_findRelease_31 rfl (lvG hl rfl) ?_
        refine lv_iload hx hb dX4_findRelease_32 (lvG hl rfl) ?_
        refine k_callPI (k_goV (rest := []) hC hK (c_X4_constantAt l g x a n f cn rf qc qo qi e0 sp p0 i (by first | assumption | omega)) L_X4_X4_constantAt (⟨⟨Nat.le_of_ble_eq_true rfl, Nat.le_of_ble_eq_true rfl⟩, ⟨rfl, rfl⟩, ⟨Nat.le_of_ble_eq_true rfl, Nat.le_of_ble_eq_true rfl⟩⟩) (k_recv hK hP.1.1 0 rfl rfl) (⟨hP.1, hP.2⟩) rfl hl.1 rfl (Nat.le_of_ble_eq_true rfl) dX4_findRelease_34) ?_
        refine lv_bipush (v := nI 100) hx hb dX4_findRelease_37 (by decide) ?_
        refine lv_imul hx hb dX4_findRelease_39 ?_
        refine lv_iload_n hx hb dX4_findRelease_40 rfl (lvG hl rfl) ?_
        refine lv_icmp_ge (tgt := 47) hx hb dX4_findRelease_41 (by decide) (fun zc41 => ?_) (fun zc41 => ?_)
        · refine n_iinc (lv' := [(4, .int (nI (i + 1))), (3, .int (bd)), (0, .ref (x 0)), (1, .ref qc), (2, .int (nI cu))]) hC dX4_findRelease_47 hl rfl (by decide) rfl (fun ls hl => ?_)
          refine lv_goto (tgt := 23) hx hb dX4_findRelease_50 (by decide) ?_
          exact ih_3 (i + 1)  (by first | omega | assumption | rfl) (by rw [← hs, show 21 - i = (21 - (i + 1)) + 1 by omega, s_rl_t (by omega) zc41]) (by omega) ls (lv_sub hl [0, 1, 2, 3, 4] rfl)
        · refine lv_iload hx hb dX4_findRelease_44 (lvG hl rfl) ?_
          exact k_iret hC hr hlk dX4_findRelease_46 (by unfold k_re; rw [← hs, s_rl_f (fun q => absurd q.2 (Int32.not_le.mpr (Int32.not_le.mp zc41))), if_neg (by omega)])
  exact key_1 ((21 - (cu + 1)) + 1) (cu + 1)  (by first | rfl | omega | assumption) (by rw [ebd]; exact s_rl_fuel _ _ _ _ _ _ (by omega) (by omega) (by omega)) (Nat.lt_succ_self _) ls (lv_sub hl [0, 1, 2, 3, 4] rfl)
theorem L_X4_X4_leastOf : LnkS RX4 335 yX4_leastOf cX4_leastOf 3 (some .int) 1 := ⟨w_387, w_388, w_25, w_389, ⟨by decide +kernel, by decide +kernel⟩, by decide +kernel⟩
set_option maxHeartbeats 4000000 in
set_option maxRecDepth 100000 in
theorem c_X4_findCompression (l : Launch) (g : kG) (x : Nat → Nat) (a : Nat → Nat) (n : Nat) (f : Nat → Int32) (cn : Nat) (rf : Nat → Option Nat) (y : Nat) (h : Nat → Int32) : PI l yX4_findCompression cX4_findCompression 4 (some .int) (rr 2 43) [.ref (x 0), .ref y] ((fun H => XB g x a n f cn rf H ∧ va_P g.1 kCl [cI g y 21 h] H)) g (nI (k_cp f h)) := by
  refine kOf (by decide) (Nat.le_of_ble_eq_true rfl) (fun p e s m below meth c ls hC hr hlk hin hK hP hl => ?_)
  have hx := hC.1
  have hb := hC.2.1
  have hml := hC.2.2.1
  have hown := hC.2.2.2.1
  have hts := hC.2.2.2.2
  have hl : lv_has ls 4 [(0, .ref (x 0)), (1, .ref y)] := hl
  refine lv_aload_n hx hb dX4_findCompression_0 rfl (lvG hl rfl) ?_
  refine k_callPI (k_goS (rest := []) hC hK (c_X4_leastOf l g y h) L_X4_X4_leastOf (⟨⟨Nat.le_of_ble_eq_true rfl, Nat.le_of_ble_eq_true rfl⟩, ⟨rfl, rfl⟩, ⟨Nat.le_of_ble_eq_true rfl, Nat.le_of_ble_eq_true rfl⟩⟩) (hP.2) rfl hl.1 rfl (Nat.le_of_ble_eq_true rfl) dX4_findCompression_1) ?_
  refine lv_aload_n hx hb dX4_findCompression_4 rfl (lvG hl rfl) ?_
  refine va_get (D := g.1) (ci := 4) (v := .ref (a 0)) (C := RX4) (T := TX4) (N := 7) hx hb hts i_X4 hown hK.1 hP.1.1 0 rfl rfl 0 (by decide) (hts _ w_175) (fun _ h9 => h9) rfl dX4_findCompression_5 ?_
  refine va_get (D := g.1) (ci := 3) (v := .int (f 6)) (C := RX3) (T := TX3) (N := 13) hx hb hts i_X3 hown hK.1 hP.1.1 1 rfl rfl 6 (by decide) (hts _ w_135) (fun _ h9 => h9) rfl dX4_findCompression_8 ?_
  refine lv_iadd hx hb dX4_findCompression_11 ?_
  refine lv_topi (fun bd ebd => ?_)
  refine lv_istore_n (lv' := [(2, .int (bd)), (0, .ref (x 0)), (1, .ref y)]) hx hb dX4_findCompression_12 rfl hl (by decide) rfl (fun ls hl => ?_)
  refine lv_aload_n hx hb dX4_findCompression_13 rfl (lvG hl rfl) ?_
  refine lv_bipush (v := nI 20) hx hb dX4_findCompression_14 (by decide) ?_
  refine k_ald (k := 20) hC hK hP.2 0 rfl (by omega) (by decide) dX4_findCompression_16 ?_
  refine lv_iload_n hx hb dX4_findCompression_17 rfl (lvG hl rfl) ?_
  refine lv_icmp_le (tgt := 24) hx hb dX4_findCompression_18 (by decide) (fun zc18 => ?_) (fun zc18 => ?_)
  · refine lv_bipush (v := nI 20) hx hb dX4_findCompression_24 (by decide) ?_
    refine lv_istore_n (lv' := [(3, .int (nI 20)), (2, .int (bd)), (0, .ref (x 0)), (1, .ref y)]) hx hb dX4_findCompression_26 rfl hl (by decide) rfl (fun ls hl => ?_)
    have key_1 : ∀ (k_2 : Nat) (zi : Nat)  (hi : zi ≤ 20) (hs : s_cm h bd zi = s_cm h bd 21) (hk_k_2 : zi < k_2) (ls : Array Slot) (hl : lv_has ls 4 [(3, .int (nI zi)), (2, .int (bd)), (0, .ref (x 0)), (1, .ref y)]), W p l e (rr 2 43) s m [.ref (x 0), .ref y].toArray below meth c s.heap [] 0 0 (MQ below (vp_Si (fun r => r = nI (k_cp f h))) [.ref (x 0), .ref y].toArray s 0 0 (fun _ => False)) (F0 m 27 ls ([])) := by
      intro k_2
      induction k_2 with
      | zero => intro zi hi hs hk_k_2 ls hl; exact absurd hk_k_2 (Nat.not_lt_zero _)
      | succ k_2 ih_3 =>
        intro zi hi hs hk_k_2 ls hl
        refine lv_iload_n hx hb dX4_findCompression_27 rfl (lvG hl rfl) ?_
        refine n_if_le (tgt := 46) hC dX4_findCompression_28 (by omega) (by decide) (fun zc28 => ?_) (fun zc28 => ?_)
        · refine lv_iload_n hx hb dX4_findCompression_46 rfl (lvG hl rfl) ?_
          exact k_iret hC hr hlk dX4_findCompression_47 (by unfold k_cp; rw [← ebd, ← hs]; first | (rw [show zi = 0 by omega]; rfl) | (have e1 : s_cm h bd zi = zi := (by rw [show zi = (zi - 1) + 1 by omega]; conv => { lhs; unfold s_cm }; rw [if_pos zc37]); rw [e1, if_neg (by omega)]))
        · refine lv_aload_n hx hb dX4_findCompression_31 rfl (lvG hl rfl) ?_
          refine lv_iload_n hx hb dX4_findCompression_32 rfl (lvG hl rfl) ?_
          refine lv_iconst (v := nI 1) hx hb dX4_findCompression_33 (by decide) ?_
          refine n_isub hC dX4_findCompression_34 (by omega) ?_
          refine k_ald (k := zi - 1) hC hK hP.2 0 rfl (by omega) (by decide) dX4_findCompression_35 ?_
          refine lv_iload_n hx hb dX4_findCompression_36 rfl (lvG hl rfl) ?_
          refine lv_icmp_gt (tgt := 46) hx hb dX4_findCompression_37 (by decide) (fun zc37 => ?_) (fun zc37 => ?_)
          · refine lv_iload_n hx hb dX4_findCompression_46 rfl (lvG hl rfl) ?_
            exact k_iret hC hr hlk dX4_findCompression_47 (by unfold k_cp; rw [← ebd, ← hs]; first | (rw [show zi = 0 by omega]; rfl) | (have e1 : s_cm h bd zi = zi := (by rw [show zi = (zi - 1) + 1 by omega]; conv => { lhs; unfold s_cm }; rw [if_pos zc37]); rw [e1, if_neg (by omega)]))
          · have hl : lv_has ls 4 [(3, .int (nI (zi - 1 + 1))), (2, .int (bd)), (0, .ref (x 0)), (1, .ref y)] := lv_eq hl (by rw [show zi - 1 + 1 = zi by omega])
            refine n_idec (lv' := [(3, .int (nI (zi - 1))), (2, .int (bd)), (0, .ref (x 0)), (1, .ref y)]) hC dX4_findCompression_40 hl rfl (by decide) rfl (fun ls hl => ?_)
            refine lv_goto (tgt := 27) hx hb dX4_findCompression_43 (by decide) ?_
            exact ih_3 (zi - 1)  (by first | omega | assumption | rfl) (by rw [← hs, show zi = (zi - 1) + 1 by omega]; conv => { rhs; unfold s_cm }; rw [Nat.add_sub_cancel, if_neg zc37]) (by omega) ls (lv_sub hl [0, 1, 2, 3] rfl)
    exact key_1 (20 + 1) 20  (by first | rfl | omega | assumption) (by conv => { rhs; unfold s_cm }; rw [if_neg (Int32.not_lt.mpr zc18)]) (Nat.lt_succ_self _) ls (lv_sub hl [0, 1, 2, 3] rfl)
  · refine lv_bipush (v := nI 20) hx hb dX4_findCompression_21 (by decide) ?_
    exact k_iret hC hr hlk dX4_findCompression_23 (by unfold k_cp; rw [← ebd]; have e1 : s_cm h bd 21 = 21 := (by conv => { lhs; unfold s_cm }; rw [if_pos (Int32.not_le.mp zc18)]); rw [e1]; rfl)
