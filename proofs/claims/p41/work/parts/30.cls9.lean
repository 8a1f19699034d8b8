theorem of_eq0 {f : Nat → Int32} {j : Nat} (h : s_en f j = 0) (d : Int32) : k_of (k_fo f (s_pt f j)) (f 8) (f 9) (f 10) (f 11) d = s_of f j d := of_eq f j 8 d (by omega)
theorem of_eq1 {f : Nat → Int32} {j : Nat} (h : s_en f j = 1) (d : Int32) : k_of (k_fo f (s_pt f j)) (f 12) (f 13) (f 14) (f 15) d = s_of f j d := of_eq f j 12 d (by omega)
theorem fo_1 (f p : Nat → Int32) : k_fo f p 1 = nI (s_cu f p) := by simp [k_fo]
theorem fo_2 (f p : Nat → Int32) : k_fo f p 2 = nI (s_re f p) := by simp [k_fo]
theorem lk_eq {A B : Int32} (ha : 0 ≤ A.toInt ∧ A.toInt ≤ 250000) (hb : 0 ≤ B.toInt ∧ B.toInt ≤ 250000) (h0 : ¬ B = nI 0) : q_i ((A - B) * nI 1000) B = (s_quo ((A - B).toInt64 * (1000 : Int64)) B.toInt64).toInt32 := by
  have k1 : (nI 1000).toInt = 1000 := rfl
  have k2 : (1000 : Int64).toInt = 1000 := rfl
  have e1 : (A - B).toInt = A.toInt - B.toInt := fb_subI (by omega) (by omega)
  have e2 : ((A - B) * nI 1000).toInt = (A - B).toInt * 1000 := by rw [fb_mulI (by rw [k1]; omega) (by rw [k1]; omega), k1]
  have h1 : ¬ B.toInt = 0 := fun q => h0 (Int32.toInt_inj.mp (by rw [q]; rfl))
  refine (quo_I64 _ ((A - B) * nI 1000) B ?_ (by omega)).symm
  rw [fb_mulL (by rw [k2, t64]; omega) (by rw [k2, t64]; omega), k2, t64, e2]
theorem L_X4_X4_deviationFrom : LnkV RX4 229 yX4_deviationFrom cX4_deviationFrom 5 (some .int) 2 := ⟨w_486, w_488, w_19, w_25, w_489, ⟨by decide +kernel, by decide +kernel⟩, by decide +kernel⟩
set_option maxHeartbeats 4000000 in
set_option maxRecDepth 100000 in
theorem c_X4_slip (l : Launch) (g : kG) (x : Nat → Nat) (a : Nat → Nat) (n : Nat) (f : Nat → Int32) (cn : Nat) (rf : Nat → Option Nat) (hc : f 61 = nI cn) (hcn : cn ≤ 10) (v : Int32) (hX : ∀ j, j < cn → s_ad f (s_pt f j) ≤ 20) (hE : ∀ j, j < cn → f (62 + 44 * j) = nI (s_en f j) ∧ s_en f j ≤ 1) : MI l yX4_slip cX4_slip 8 (some .int) (rr 4 88) [.ref (x 0), .int (v)] ((fun H => XB g x a n f cn rf H ∧ XS g x H)) g 0 0 (SC x) (fun r H1 => r = (if s_okC f v then s_sl f (v).toNatClampNeg 5 else cINV) ∧ XS g x H1) := by
  refine kOf (by decide) (Nat.le_of_ble_eq_true rfl) (fun p e s m below meth c ls hC hr hlk hin hK hP hl => ?_)
  have hx := hC.1
  have hb := hC.2.1
  have hml := hC.2.2.1
  have hown := hC.2.2.2.1
  have hts := hC.2.2.2.2
  have hl : lv_has ls 8 [(0, .ref (x 0)), (1, .int (v))] := hl
  obtain ⟨hB, ⟨tr, te, fo, so, hT, hD⟩⟩ := hP
  have hS : va_S (SC x) s.heap s.heap [] := va_S.rf
  refine lv_aload_n hx hb dX4_slip_0 rfl (lvG hl rfl) ?_
  refine lv_iload_n hx hb dX4_slip_1 rfl (lvG hl rfl) ?_
  refine k_callPI (k_goV (rest := []) hC hK (c_X4_isCard l g x a n f cn rf hc hcn v) L_X4_X4_isCard (⟨⟨Nat.le_of_ble_eq_true rfl, Nat.le_of_ble_eq_true rfl⟩, ⟨rfl, rfl⟩, ⟨Nat.le_of_ble_eq_true rfl, Nat.le_of_ble_eq_true rfl⟩⟩) (k_recv hK hB.1 0 rfl rfl) (hB) rfl hl.1 rfl (Nat.le_of_ble_eq_true rfl) dX4_slip_2) ?_
  refine b_ifne (tgt := 11) hC dX4_slip_5 (by decide) (fun zc5 => ?_) (fun zc5 => ?_)
  · obtain ⟨zj, h_zj, ev_zj⟩ := in_card (v := v) hcn hc (zc5)
    have e_zj : (v).toNatClampNeg = zj := by rw [ev_zj]; exact nI_clamp (by omega)
    have hl : lv_has ls 8 [(0, .ref (x 0)), (1, .int (nI zj))] := lv_eq hl (by rw [ev_zj])
    obtain ⟨qj, qoj, qij, hrf, hcd, hn1, hn2, hn3⟩ := hB.2.2 zj (by first | assumption | omega)
    have hO : XC g x qj qoj qij (f (62 + 44 * zj)) (f (62 + 44 * zj + 1)) (s_pt f zj) s.heap := ⟨hcd, hn1, hn2, hn3⟩
    have hE1 := hE zj (by first | assumption | omega)
    rcases (show s_en f zj = 0 ∨ s_en f zj = 1 by omega) with z0 | z0
    · refine lv_aload_n hx hb dX4_slip_11 rfl (lvG hl rfl) ?_
      refine lv_aload_n hx hb dX4_slip_12 rfl (lvG hl rfl) ?_
      refine va_get (D := g.1) (ci := 4) (v := .ref (a 0)) (C := RX4) (T := TX4) (N := 7) hx hb hts i_X4 hown hK.1 hB.1 0 rfl rfl 0 (by decide) (hts _ w_175) (fun _ h9 => h9) rfl dX4_slip_13 ?_
      refine va_get (D := g.1) (ci := 3) (v := .ref (a 6)) (C := RX3) (T := TX3) (N := 13) hx hb hts i_X3 hown hK.1 hB.1 1 rfl rfl 11 (by decide) (hts _ w_144) (fun _ h9 => h9) rfl dX4_slip_16 ?_
      refine lv_iload_n hx hb dX4_slip_19 rfl (lvG hl rfl) ?_
      refine q_ald (k := zj) (b := qj) hC hK hB.1 4 rfl (by omega) (by decide) (hrf) dX4_slip_20 ?_
      refine k_callMV0 (k_goV (rest := []) hC hK (c_X4_findEvents l g x a n f cn rf tr te fo so qj qoj qij (f (62 + 44 * zj)) (f (62 + 44 * zj + 1)) ((s_pt f zj)) (hX zj h_zj)) L_X4_X4_findEvents (⟨⟨Nat.le_of_ble_eq_true rfl, Nat.le_of_ble_eq_true rfl⟩, ⟨rfl, rfl⟩, ⟨Nat.le_of_ble_eq_true rfl, Nat.le_of_ble_eq_true rfl⟩⟩) (k_recv hK hB.1 0 rfl rfl) (⟨hB, ⟨hT, hD⟩, hO⟩) rfl hl.1 rfl (Nat.le_of_ble_eq_true rfl) dX4_slip_21) hS (fun _ h => h) (fun H_1 locs_2 hQ_3 hz_ hk_5 hS_4 => ?_)
      obtain ⟨hT_6, hD_7⟩ := hQ_3
      have hB_8 : XB g x a n f cn rf H_1 := hB.at hS_4
      have hO_9 := hO.at hS_4
      refine lv_aload_n hx hb dX4_slip_24 rfl (lvG hl rfl) ?_
      refine va_get (D := g.1) (ci := 4) (v := .ref (a 0)) (C := RX4) (T := TX4) (N := 7) hx hb hts i_X4 hown hK.1 hB_8.1 0 rfl rfl 0 (by decide) (hts _ w_175) (fun _ h9 => h9) rfl dX4_slip_25 ?_
      refine lv_aload_n hx hb dX4_slip_28 rfl (lvG hl rfl) ?_
      refine va_get (D := g.1) (ci := 4) (v := .ref (a 0)) (C := RX4) (T := TX4) (N := 7) hx hb hts i_X4 hown hK.1 hB_8.1 0 rfl rfl 0 (by decide) (hts _ w_175) (fun _ h9 => h9) rfl dX4_slip_29 ?_
      refine va_get (D := g.1) (ci := 3) (v := .ref (a 6)) (C := RX3) (T := TX3) (N := 13) hx hb hts i_X3 hown hK.1 hB_8.1 1 rfl rfl 11 (by decide) (hts _ w_144) (fun _ h9 => h9) rfl dX4_slip_32 ?_
      refine lv_iload_n hx hb dX4_slip_35 rfl (lvG hl rfl) ?_
      refine q_ald (k := zj) (b := qj) hC hK hB_8.1 4 rfl (by omega) (by decide) (hrf) dX4_slip_36 ?_
      refine va_get (D := g.1) (ci := 0) (v := .int (f (62 + 44 * zj))) (C := RX0) (T := TX0) (N := 4) hx hb hts i_X0 hown hK.1 hO_9.1 0 rfl rfl 0 (by decide) (hts _ w_46) (fun _ h9 => h9) rfl dX4_slip_37 ?_
      rw [hE1.1, z0]
      refine k_callPR (k_goV (rest := []) hC hK (c_X3_valvesOf l g a f (nI 0)) L_X4_X3_valvesOf (⟨⟨Nat.le_of_ble_eq_true rfl, Nat.le_of_ble_eq_true rfl⟩, ⟨rfl, rfl⟩, ⟨Nat.le_of_ble_eq_true rfl, Nat.le_of_ble_eq_true rfl⟩⟩) (k_recv hK hB_8.1 1 rfl rfl) ((hB_8.1.sub [1] rfl)) rfl hl.1 rfl (Nat.le_of_ble_eq_true rfl) dX4_slip_40) ?_
      rw [if_pos (show nI 0 = nI 0 from rfl)]
      refine lv_astore_n (lv' := [(2, .ref (a 1)), (0, .ref (x 0)), (1, .int (nI zj))]) hx hb dX4_slip_43 rfl hl (by decide) rfl (fun ls hl => ?_)
      refine lv_iconst (v := nI 0) hx hb dX4_slip_44 (by decide) ?_
      refine lv_istore_n (lv' := [(3, .int (nI 0)), (2, .ref (a 1)), (0, .ref (x 0)), (1, .int (nI zj))]) hx hb dX4_slip_45 rfl hl (by decide) rfl (fun ls hl => ?_)
      refine lv_aload_n hx hb dX4_slip_46 rfl (lvG hl rfl) ?_
      refine lv_aload_n hx hb dX4_slip_47 rfl (lvG hl rfl) ?_
      refine lv_iconst (v := nI 0) hx hb dX4_slip_48 (by decide) ?_
      refine k_callPI (k_goV (rest := []) hC hK (c_X4_deviationFrom l g x a n f cn rf tr te (k_fo f ((s_pt f zj))) so (a 1) (f 8) (f 9) (f 10) (f 11) (nI 0)) L_X4_X4_deviationFrom (⟨⟨Nat.le_of_ble_eq_true rfl, Nat.le_of_ble_eq_true rfl⟩, ⟨rfl, rfl⟩, ⟨Nat.le_of_ble_eq_true rfl, Nat.le_of_ble_eq_true rfl⟩⟩) (k_recv hK hB_8.1 0 rfl rfl) (⟨hB_8, ⟨hT_6, hD_7⟩, (hB_8.1.sub [2] rfl)⟩) rfl hl.1 rfl (Nat.le_of_ble_eq_true rfl) dX4_slip_49) ?_
      rw [of_eq0 z0]
      refine lv_istore (lv' := [(4, .int (s_of f zj (nI 0))), (3, .int (nI 0)), (2, .ref (a 1)), (0, .ref (x 0)), (1, .int (nI zj))]) hx hb dX4_slip_52 hl (by decide) rfl (fun ls hl => ?_)
      refine lv_iconst (v := nI 1) hx hb dX4_slip_54 (by decide) ?_
      refine lv_istore (lv' := [(5, .int (nI 1)), (4, .int (s_of f zj (nI 0))), (3, .int (nI 0)), (2, .ref (a 1)), (0, .ref (x 0)), (1, .int (nI zj))]) hx hb dX4_slip_55 hl (by decide) rfl (fun ls hl => ?_)
      have key_10 : ∀ (k_11 : Nat) (zi : Nat) (lt : Int32) (bs : Int32)  (hi : zi ≤ 5) (hlt : lt = s_of f zj bs) (hbs : bs = s_sl f zj zi) (hk_k_11 : 5 - zi < k_11) (ls : Array Slot) (hl : lv_has ls 8 [(5, .int (nI (zi + 1))), (4, .int (lt)), (3, .int (bs)), (2, .ref (a 1)), (0, .ref (x 0)), (1, .int (nI zj))]), W p l e (rr 4 88) s m [.ref (x 0), .int (v)].toArray below meth c H_1 locs_2 0 0 (MQ below (qI (SC x) (fun r H1 => r = (if s_okC f v then s_sl f (v).toNatClampNeg 5 else cINV) ∧ XS g x H1)) [.ref (x 0), .int (v)].toArray s 0 0 (SC x)) (F0 m 57 ls ([])) := by
        intro k_11
        induction k_11 with
        | zero => intro zi lt bs hi hlt hbs hk_k_11 ls hl; exact absurd hk_k_11 (Nat.not_lt_zero _)
        | succ k_11 ih_12 =>
          intro zi lt bs hi hlt hbs hk_k_11 ls hl
          refine lv_iload hx hb dX4_slip_57 (lvG hl rfl) ?_
          refine lv_iconst (v := nI 5) hx hb dX4_slip_59 (by decide) ?_
          refine n_icmp_gt (tgt := 117) hC dX4_slip_60 (by omega) (by omega) (by decide) (fun zc60 => ?_) (fun zc60 => ?_)
          · refine lv_iload_n hx hb dX4_slip_117 rfl (lvG hl rfl) ?_
            exact k_iretM hC hr hlk hS_4 dX4_slip_118 (⟨by rw [if_pos zc5, e_zj, hbs, show zi = 5 by omega], XTS ⟨hT_6, hD_7⟩⟩)
          · refine lv_aload_n hx hb dX4_slip_63 rfl (lvG hl rfl) ?_
            refine lv_aload_n hx hb dX4_slip_64 rfl (lvG hl rfl) ?_
            refine lv_iload hx hb dX4_slip_65 (lvG hl rfl) ?_
            refine lv_ineg hx hb dX4_slip_67 ?_
            refine k_callPI (k_goV (rest := []) hC hK (c_X4_deviationFrom l g x a n f cn rf tr te (k_fo f ((s_pt f zj))) so (a 1) (f 8) (f 9) (f 10) (f 11) (-(nI (zi + 1)))) L_X4_X4_deviationFrom (⟨⟨Nat.le_of_ble_eq_true rfl, Nat.le_of_ble_eq_true rfl⟩, ⟨rfl, rfl⟩, ⟨Nat.le_of_ble_eq_true rfl, Nat.le_of_ble_eq_true rfl⟩⟩) (k_recv hK hB_8.1 0 rfl rfl) (⟨hB_8, ⟨hT_6, hD_7⟩, (hB_8.1.sub [2] rfl)⟩) rfl hl.1 rfl (Nat.le_of_ble_eq_true rfl) dX4_slip_68) ?_
            rw [of_eq0 z0]
            refine lv_istore (lv' := [(6, .int (s_of f zj (-(nI (zi + 1))))), (5, .int (nI (zi + 1))), (4, .int (lt)), (3, .int (bs)), (2, .ref (a 1)), (0, .ref (x 0)), (1, .int (nI zj))]) hx hb dX4_slip_71 hl (by decide) rfl (fun ls hl => ?_)
            refine lv_iload hx hb dX4_slip_73 (lvG hl rfl) ?_
            refine lv_iload hx hb dX4_slip_75 (lvG hl rfl) ?_
            refine lv_icmp_ge (tgt := 88) hx hb dX4_slip_77 (by decide) (fun zc77 => ?_) (fun zc77 => ?_)
            · refine lv_aload_n hx hb dX4_slip_88 rfl (lvG hl rfl) ?_
              refine lv_aload_n hx hb dX4_slip_89 rfl (lvG hl rfl) ?_
              refine lv_iload hx hb dX4_slip_90 (lvG hl rfl) ?_
              refine k_callPI (k_goV (rest := []) hC hK (c_X4_deviationFrom l g x a n f cn rf tr te (k_fo f ((s_pt f zj))) so (a 1) (f 8) (f 9) (f 10) (f 11) (nI (zi + 1))) L_X4_X4_deviationFrom (⟨⟨Nat.le_of_ble_eq_true rfl, Nat.le_of_ble_eq_true rfl⟩, ⟨rfl, rfl⟩, ⟨Nat.le_of_ble_eq_true rfl, Nat.le_of_ble_eq_true rfl⟩⟩) (k_recv hK hB_8.1 0 rfl rfl) (⟨hB_8, ⟨hT_6, hD_7⟩, (hB_8.1.sub [2] rfl)⟩) rfl hl.1 rfl (Nat.le_of_ble_eq_true rfl) dX4_slip_92) ?_
              rw [of_eq0 z0]
              refine lv_istore (lv' := [(7, .int (s_of f zj (nI (zi + 1)))), (6, .int (s_of f zj (-(nI (zi + 1))))), (5, .int (nI (zi + 1))), (4, .int (lt)), (3, .int (bs)), (2, .ref (a 1)), (0, .ref (x 0)), (1, .int (nI zj))]) hx hb dX4_slip_95 hl (by decide) rfl (fun ls hl => ?_)
              refine lv_iload hx hb dX4_slip_97 (lvG hl rfl) ?_
              refine lv_iload hx hb dX4_slip_99 (lvG hl rfl) ?_
              refine lv_icmp_ge (tgt := 111) hx hb dX4_slip_101 (by decide) (fun zc101 => ?_) (fun zc101 => ?_)
              · refine n_iinc (lv' := [(5, .int (nI (zi + 1 + 1))), (7, .int (s_of f zj (nI (zi + 1)))), (6, .int (s_of f zj (-(nI (zi + 1))))), (4, .int (lt)), (3, .int (bs)), (2, .ref (a 1)), (0, .ref (x 0)), (1, .int (nI zj))]) hC dX4_slip_111 hl rfl (by decide) rfl (fun ls hl => ?_)
                refine lv_goto (tgt := 57) hx hb dX4_slip_114 (by decide) ?_
                exact ih_12 (zi + 1) lt bs  (by first | omega | assumption | rfl) (by first | exact hlt | rfl) (by unfold s_sl s_s1 s_s2; rw [← hbs, ← hlt]; first | (rw [if_pos (Int32.not_le.mp zc77)]; first | (rw [if_pos (Int32.not_le.mp zc101)]; done) | (rw [if_neg (Int32.not_lt.mpr zc101)]; done)) | (rw [if_neg (Int32.not_lt.mpr zc77), ← hlt]; first | (rw [if_pos (Int32.not_le.mp zc101)]; done) | (rw [if_neg (Int32.not_lt.mpr zc101)]; done))) (by omega) ls (lv_sub hl [0, 3, 4, 5, 6, 7] rfl)
              · refine lv_iload hx hb dX4_slip_104 (lvG hl rfl) ?_
                refine lv_istore (lv' := [(4, .int (s_of f zj (nI (zi + 1)))), (7, .int (s_of f zj (nI (zi + 1)))), (6, .int (s_of f zj (-(nI (zi + 1))))), (5, .int (nI (zi + 1))), (3, .int (bs)), (2, .ref (a 1)), (0, .ref (x 0)), (1, .int (nI zj))]) hx hb dX4_slip_106 hl (by decide) rfl (fun ls hl => ?_)
                refine lv_iload hx hb dX4_slip_108 (lvG hl rfl) ?_
                refine lv_istore_n (lv' := [(3, .int (nI (zi + 1))), (4, .int (s_of f zj (nI (zi + 1)))), (7, .int (s_of f zj (nI (zi + 1)))), (6, .int (s_of f zj (-(nI (zi + 1))))), (5, .int (nI (zi + 1))), (2, .ref (a 1)), (0, .ref (x 0)), (1, .int (nI zj))]) hx hb dX4_slip_110 rfl hl (by decide) rfl (fun ls hl => ?_)
                refine n_iinc (lv' := [(5, .int (nI (zi + 1 + 1))), (3, .int (nI (zi + 1))), (4, .int (s_of f zj (nI (zi + 1)))), (7, .int (s_of f zj (nI (zi + 1)))), (6, .int (s_of f zj (-(nI (zi + 1))))), (2, .ref (a 1)), (0, .ref (x 0)), (1, .int (nI zj))]) hC dX4_slip_111 hl rfl (by decide) rfl (fun ls hl => ?_)
                refine lv_goto (tgt := 57) hx hb dX4_slip_114 (by decide) ?_
                exact ih_12 (zi + 1) (s_of f zj (nI (zi + 1))) (nI (zi + 1))  (by first | omega | assumption | rfl) (by first | exact hlt | rfl) (by unfold s_sl s_s1 s_s2; rw [← hbs, ← hlt]; first | (rw [if_pos (Int32.not_le.mp zc77)]; first | (rw [if_pos (Int32.not_le.mp zc101)]; done) | (rw [if_neg (Int32.not_lt.mpr zc101)]; done)) | (rw [if_neg (Int32.not_lt.mpr zc77), ← hlt]; first | (rw [if_pos (Int32.not_le.mp zc101)]; done) | (rw [if_neg (Int32.not_lt.mpr zc101)]; done))) (by omega) ls (lv_sub hl [0, 2, 1, 5, 6, 7] rfl)
            · refine lv_iload hx hb dX4_slip_80 (lvG hl rfl) ?_
              refine lv_istore (lv' := [(4, .int (s_of f zj (-(nI (zi + 1))))), (6, .int (s_of f zj (-(nI (zi + 1))))), (5, .int (nI (zi + 1))), (3, .int (bs)), (2, .ref (a 1)), (0, .ref (x 0)), (1, .int (nI zj))]) hx hb dX4_slip_82 hl (by decide) rfl (fun ls hl => ?_)
              refine lv_iload hx hb dX4_slip_84 (lvG hl rfl) ?_
              refine lv_ineg hx hb dX4_slip_86 ?_
              refine lv_istore_n (lv' := [(3, .int (-(nI (zi + 1)))), (4, .int (s_of f zj (-(nI (zi + 1))))), (6, .int (s_of f zj (-(nI (zi + 1))))), (5, .int (nI (zi + 1))), (2, .ref (a 1)), (0, .ref (x 0)), (1, .int (nI zj))]) hx hb dX4_slip_87 rfl hl (by decide) rfl (fun ls hl => ?_)
              refine lv_aload_n hx hb dX4_slip_88 rfl (lvG hl rfl) ?_
              refine lv_aload_n hx hb dX4_slip_89 rfl (lvG hl rfl) ?_
              refine lv_iload hx hb dX4_slip_90 (lvG hl rfl) ?_
              refine k_callPI (k_goV (rest := []) hC hK (c_X4_deviationFrom l g x a n f cn rf tr te (k_fo f ((s_pt f zj))) so (a 1) (f 8) (f 9) (f 10) (f 11) (nI (zi + 1))) L_X4_X4_deviationFrom (⟨⟨Nat.le_of_ble_eq_true rfl, Nat.le_of_ble_eq_true rfl⟩, ⟨rfl, rfl⟩, ⟨Nat.le_of_ble_eq_true rfl, Nat.le_of_ble_eq_true rfl⟩⟩) (k_recv hK hB_8.1 0 rfl rfl) (⟨hB_8, ⟨hT_6, hD_7⟩, (hB_8.1.sub [2] rfl)⟩) rfl hl.1 rfl (Nat.le_of_ble_eq_true rfl) dX4_slip_92) ?_
              rw [of_eq0 z0]
              refine lv_istore (lv' := [(7, .int (s_of f zj (nI (zi + 1)))), (3, .int (-(nI (zi + 1)))), (4, .int (s_of f zj (-(nI (zi + 1))))), (6, .int (s_of f zj (-(nI (zi + 1))))), (5, .int (nI (zi + 1))), (2, .ref (a 1)), (0, .ref (x 0)), (1, .int (nI zj))]) hx hb dX4_slip_95 hl (by decide) rfl (fun ls hl => ?_)
              refine lv_iload hx hb dX4_slip_97 (lvG hl rfl) ?_
              refine lv_iload hx hb dX4_slip_99 (lvG hl rfl) ?_
              refine lv_icmp_ge (tgt := 111) hx hb dX4_slip_101 (by decide) (fun zc101 => ?_) (fun zc101 => ?_)
              · refine n_iinc (lv' := [(5, .int (nI (zi + 1 + 1))), (7, .int (s_of f zj (nI (zi + 1)))), (3, .int (-(nI (zi + 1)))), (4, .int (s_of f zj (-(nI (zi + 1))))), (6, .int (s_of f zj (-(nI (zi + 1))))), (2, .ref (a 1)), (0, .ref (x 0)), (1, .int (nI zj))]) hC dX4_slip_111 hl rfl (by decide) rfl (fun ls hl => ?_)
                refine lv_goto (tgt := 57) hx hb dX4_slip_114 (by decide) ?_
                exact ih_12 (zi + 1) (s_of f zj (-(nI (zi + 1)))) (-(nI (zi + 1)))  (by first | omega | assumption | rfl) (by first | exact hlt | rfl) (by unfold s_sl s_s1 s_s2; rw [← hbs, ← hlt]; first | (rw [if_pos (Int32.not_le.mp zc77)]; first | (rw [if_pos (Int32.not_le.mp zc101)]; done) | (rw [if_neg (Int32.not_lt.mpr zc101)]; done)) | (rw [if_neg (Int32.not_lt.mpr zc77), ← hlt]; first | (rw [if_pos (Int32.not_le.mp zc101)]; done) | (rw [if_neg (Int32.not_lt.mpr zc101)]; done))) (by omega) ls (lv_sub hl [0, 3, 2, 5, 6, 7] rfl)
              · refine lv_iload hx hb dX4_slip_104 (lvG hl rfl) ?_
                refine lv_istore (lv' := [(4, .int (s_of f zj (nI (zi + 1)))), (7, .int (s_of f zj (nI (zi + 1)))), (3, .int (-(nI (zi + 1)))), (6, .int (s_of f zj (-(nI (zi + 1))))), (5, .int (nI (zi + 1))), (2, .ref (a 1)), (0, .ref (x 0)), (1, .int (nI zj))]) hx hb dX4_slip_106 hl (by decide) rfl (fun ls hl => ?_)
                refine lv_iload hx hb dX4_slip_108 (lvG hl rfl) ?_
                refine lv_istore_n (lv' := [(3, .int (nI (zi + 1))), (4, .int (s_of f zj (nI (zi + 1)))), (7, .int (s_of f zj (nI (zi + 1)))), (6, .int (s_of f zj (-(nI (zi + 1))))), (5, .int (nI (zi + 1))), (2, .ref (a 1)), (0, .ref (x 0)), (1, .int (nI zj))]) hx hb dX4_slip_110 rfl hl (by decide) rfl (fun ls hl => ?_)
                refine n_iinc (lv' := [(5, .int (nI (zi + 1 + 1))), (3, .int (nI (zi + 1))), (4, .int (s_of f zj (nI (zi + 1)))), (7, .int (s_of f zj (nI (zi + 1)))), (6, .int (s_of f zj (-(nI (zi + 1))))), (2, .ref (a 1)), (0, .ref (x 0)), (1, .int (nI zj))]) hC dX4_slip_111 hl rfl (by decide) rfl (fun ls hl => ?_)
                refine lv_goto (tgt := 57) hx hb dX4_slip_114 (by decide) ?_
                exact ih_12 (zi + 1) (s_of f zj (nI (zi + 1))) (nI (zi + 1))  (by first | omega | assumption | rfl) (by first | exact hlt | rfl) (by unfold s_sl s_s1 s_s2; rw [← hbs, ← hlt]; first | (rw [if_pos (Int32.not_le.mp zc77)]; first | (rw [if_pos (Int32.not_le.mp zc101)]; done) | (rw [if_neg (Int32.not_lt.mpr zc101)]; done)) | (rw [if_neg (Int32.not_lt.mpr zc77), ← hlt]; first | (rw [if_pos (Int32.not_le.mp zc101)]; done) | (rw [if_neg (Int32.not_lt.mpr zc101)]; done))) (by omega) ls (lv_sub hl [0, 2, 1, 5, 6, 7] rfl)
      exact key_10 ((5 - 0) + 1) 0 (s_of f zj (nI 0)) (nI 0)  (by first | rfl | omega | assumption) (rfl) (rfl) (Nat.lt_succ_self _) ls (lv_sub hl [0, 1, 2, 3, 4, 5] rfl)
    · refine lv_aload_n hx hb dX4_slip_11 rfl (lvG hl rfl) ?_
      refine lv_aload_n hx hb dX4_slip_12 rfl (lvG hl rfl) ?_
      refine va_get (D := g.1) (ci := 4) (v := .ref (a 0)) (C := RX4) (T := TX4) (N := 7) hx hb hts i_X4 hown hK.1 hB.1 0 rfl rfl 0 (by decide) (hts _ w_175) (fun _ h9 => h9) rfl dX4_slip_13 ?_
      refine va_get (D := g.1) (ci := 3) (v := .ref (a 6)) (C := RX3) (T := TX3) (N := 13) hx hb hts i_X3 hown hK.1 hB.1 1 rfl rfl 11 (by decide) (hts _ w_144) (fun _ h9 => h9) rfl dX4_slip_16 ?_
      refine lv_iload_n hx hb dX4_slip_19 rfl (lvG hl rfl) ?_
      refine q_ald (k := zj) (b := qj) hC hK hB.1 4 rfl (by omega) (by decide) (hrf) dX4_slip_20 ?_
      refine k_callMV0 (k_goV (rest := []) hC hK (c_X4_findEvents l g x a n f cn rf tr te fo so qj qoj qij (f (62 + 44 * zj)) (f (62 + 44 * zj + 1)) ((s_pt f zj)) (hX zj h_zj)) L_X4_X4_findEvents (⟨⟨Nat.le_of_ble_eq_true rfl, Nat.le_of_ble_eq_true rfl⟩, ⟨rfl, rfl⟩, ⟨Nat.le_of_ble_eq_true rfl, Nat.le_of_ble_eq_true rfl⟩⟩) (k_recv hK hB.1 0 rfl rfl) (⟨hB, ⟨hT, hD⟩, hO⟩) rfl hl.1 rfl (Nat.le_of_ble_eq_true rfl) dX4_slip_21) hS (fun _ h => h) (fun H_13 locs_14 hQ_15 hz_ hk_17 hS_16 => ?_)
      obtain ⟨hT_18, hD_19⟩ := hQ_15
      have hB_20 : XB g x a n f cn rf H_13 := hB.at hS_16
      have hO_21 := hO.at hS_16
      refine lv_aload_n hx hb dX4_slip_24 rfl (lvG hl rfl) ?_
      refine va_get (D := g.1) (ci := 4) (v := .ref (a 0)) (C := RX4) (T := TX4) (N := 7) hx hb hts i_X4 hown hK.1 hB_20.1 0 rfl rfl 0 (by decide) (hts _ w_175) (fun _ h9 => h9) rfl dX4_slip_25 ?_
      refine lv_aload_n hx hb dX4_slip_28 rfl (lvG hl rfl) ?_
      refine va_get (D := g.1) (ci := 4) (v := .ref (a 0)) (C := RX4) (T := TX4) (N := 7) hx hb hts i_X4 hown hK.1 hB_20.1 0 rfl rfl 0 (by decide) (hts _ w_175) (fun _ h9 => h9) rfl dX4_slip_29 ?_
      refine va_get (D := g.1) (ci := 3) (v := .ref (a 6)) (C := RX3) (T := TX3) (N := 13) hx hb hts i_X3 hown hK.1 hB_20.1 1 rfl rfl 11 (by decide) (hts _ w_144) (fun _ h9 => h9) rfl dX4_slip_32 ?_
      refine lv_iload_n hx hb dX4_slip_35 rfl (lvG hl rfl) ?_
      refine q_ald (k := zj) (b := qj) hC hK hB_20.1 4 rfl (by omega) (by decide) (hrf) dX4_slip_36 ?_
      refine va_get (D := g.1) (ci := 0) (v := .int (f (62 + 44 * zj))) (C := RX0) (T := TX0) (N := 4) hx hb hts i_X0 hown hK.1 hO_21.1 0 rfl rfl 0 (by decide) (hts _ w_46) (fun _ h9 => h9) rfl dX4_slip_37 ?_
      rw [hE1.1, z0]
      refine k_callPR (k_goV (rest := []) hC hK (c_X3_valvesOf l g a f (nI 1)) L_X4_X3_valvesOf (⟨⟨Nat.le_of_ble_eq_true rfl, Nat.le_of_ble_eq_true rfl⟩, ⟨rfl, rfl⟩, ⟨Nat.le_of_ble_eq_true rfl, Nat.le_of_ble_eq_true rfl⟩⟩) (k_recv hK hB_20.1 1 rfl rfl) ((hB_20.1.sub [1] rfl)) rfl hl.1 rfl (Nat.le_of_ble_eq_true rfl) dX4_slip_40) ?_
      rw [if_neg (show ¬ nI 1 = nI 0 by decide)]
      refine lv_astore_n (lv' := [(2, .ref (a 2)), (0, .ref (x 0)), (1, .int (nI zj))]) hx hb dX4_slip_43 rfl hl (by decide) rfl (fun ls hl => ?_)
      refine lv_iconst (v := nI 0) hx hb dX4_slip_44 (by decide) ?_
      refine lv_istore_n (lv' := [(3, .int (nI 0)), (2, .ref (a 2)), (0, .ref (x 0)), (1, .int (nI zj))]) hx hb dX4_slip_45 rfl hl (by decide) rfl (fun ls hl => ?_)
      refine lv_aload_n hx hb dX4_slip_46 rfl (lvG hl rfl) ?_
      refine lv_aload_n hx hb dX4_slip_47 rfl (lvG hl rfl) ?_
      refine lv_iconst (v := nI 0) hx hb dX4_slip_48 (by decide) ?_
      refine k_callPI (k_goV (rest := []) hC hK (c_X4_deviationFrom l g x a n f cn rf tr te (k_fo f ((s_pt f zj))) so (a 2) (f 12) (f 13) (f 14) (f 15) (nI 0)) L_X4_X4_deviationFrom (⟨⟨Nat.le_of_ble_eq_true rfl, Nat.le_of_ble_eq_true rfl⟩, ⟨rfl, rfl⟩, ⟨Nat.le_of_ble_eq_true rfl, Nat.le_of_ble_eq_true rfl⟩⟩) (k_recv hK hB_20.1 0 rfl rfl) (⟨hB_20, ⟨hT_18, hD_19⟩, (hB_20.1.sub [3] rfl)⟩) rfl hl.1 rfl (Nat.le_of_ble_eq_true rfl) dX4_slip_49) ?_
      rw [of_eq1 z0]
      refine lv_istore (lv' := [(4, .int (s_of f zj (nI 0))), (3, .int (nI 0)), (2, .ref (a 2)), (0, .ref (x 0)), (1, .int (nI zj))]) hx hb dX4_slip_52 hl (by decide) rfl (fun ls hl => ?_)
      refine lv_iconst (v := nI 1) hx hb dX4_slip_54 (by decide) ?_
      refine lv_istore (lv' := [(5, .int (nI 1)), (4, .int (s_of f zj (nI 0))), (3, .int (nI 0)), (2, .ref (a 2)), (0, .ref (x 0)), (1, .int (nI zj))]) hx hb dX4_slip_55 hl (by decide) rfl (fun ls hl => ?_)
      have key_22 : ∀ (k_23 : Nat) (zi : Nat) (lt : Int32) (bs : Int32)  (hi : zi ≤ 5) (hlt : lt = s_of f zj bs) (hbs : bs = s_sl f zj zi) (hk_k_23 : 5 - zi < k_23) (ls : Array Slot) (hl : lv_has ls 8 [(5, .int (nI (zi + 1))), (4, .int (lt)), (3, .int (bs)), (2, .ref (a 2)), (0, .ref (x 0)), (1, .int (nI zj))]), W p l e (rr 4 88) s m [.ref (x 0), .int (v)].toArray below meth c H_13 locs_14 0 0 (MQ below (qI (SC x) (fun r H1 => r = (if s_okC f v then s_sl f (v).toNatClampNeg 5 else cINV) ∧ XS g x H1)) [.ref (x 0), .int (v)].toArray s 0 0 (SC x)) (F0 m 57 ls ([])) := by
        intro k_23
        induction k_23 with
        | zero => intro zi lt bs hi hlt hbs hk_k_23 ls hl; exact absurd hk_k_23 (Nat.not_lt_zero _)
        | succ k_23 ih_24 =>
          intro zi lt bs hi hlt hbs hk_k_23 ls hl
          refine lv_iload hx hb dX4_slip_57 (lvG hl rfl) ?_
          refine lv_iconst (v := nI 5) hx hb dX4_slip_59 (by decide) ?_
          refine n_icmp_gt (tgt := 117) hC dX4_slip_60 (by omega) (by omega) (by decide) (fun zc60 => ?_) (fun zc60 => ?_)
          · refine lv_iload_n hx hb dX4_slip_117 rfl (lvG hl rfl) ?_
            exact k_iretM hC hr hlk hS_16 dX4_slip_118 (⟨by rw [if_pos zc5, e_zj, hbs, show zi = 5 by omega], XTS ⟨hT_18, hD_19⟩⟩)
          · refine lv_aload_n hx hb dX4_slip_63 rfl (lvG hl rfl) ?_
            refine lv_aload_n hx hb dX4_slip_64 rfl (lvG hl rfl) ?_
            refine lv_iload hx hb dX4_slip_65 (lvG hl rfl) ?_
            refine lv_ineg hx hb dX4_slip_67 ?_
            refine k_callPI (k_goV (rest := []) hC hK (c_X4_deviationFrom l g x a n f cn rf tr te (k_fo f ((s_pt f zj))) so (a 2) (f 12) (f 13) (f 14) (f 15) (-(nI (zi + 1)))) L_X4_X4_deviationFrom (⟨⟨Nat.le_of_ble_eq_true rfl, Nat.le_of_ble_eq_true rfl⟩, ⟨rfl, rfl⟩, ⟨Nat.le_of_ble_eq_true rfl, Nat.le_of_ble_eq_true rfl⟩⟩) (k_recv hK hB_20.1 0 rfl rfl) (⟨hB_20, ⟨hT_18, hD_19⟩, (hB_20.1.sub [3] rfl)⟩) rfl hl.1 rfl (Nat.le_of_ble_eq_true rfl) dX4_slip_68) ?_
            rw [of_eq1 z0]
            refine lv_istore (lv' := [(6, .int (s_of f zj (-(nI (zi + 1))))), (5, .int (nI (zi + 1))), (4, .int (lt)), (3, .int (bs)), (2, .ref (a 2)), (0, .ref (x 0)), (1, .int (nI zj))]) hx hb dX4_slip_71 hl (by decide) rfl (fun ls hl => ?_)
            refine lv_iload hx hb dX4_slip_73 (lvG hl rfl) ?_
            refine lv_iload hx hb dX4_slip_75 (lvG hl rfl) ?_
            refine lv_icmp_ge (tgt := 88) hx hb dX4_slip_77 (by decide) (fun zc77 => ?_) (fun zc77 => ?_)
            · refine lv_aload_n hx hb dX4_slip_88 rfl (lvG hl rfl) ?_
              refine lv_aload_n hx hb dX4_slip_89 rfl (lvG hl rfl) ?_
              refine lv_iload hx hb dX4_slip_90 (lvG hl rfl) ?_
              refine k_callPI (k_goV (rest := []) hC hK (c_X4_deviationFrom l g x a n f cn rf tr te (k_fo f ((s_pt f zj))) so (a 2) (f 12) (f 13) (f 14) (f 15) (nI (zi + 1))) L_X4_X4_deviationFrom (⟨⟨Nat.le_of_ble_eq_true rfl, Nat.le_of_ble_eq_true rfl⟩, ⟨rfl, rfl⟩, ⟨Nat.le_of_ble_eq_true rfl, Nat.le_of_ble_eq_true rfl⟩⟩) (k_recv hK hB_20.1 0 rfl rfl) (⟨hB_20, ⟨hT_18, hD_19⟩, (hB_20.1.sub [3] rfl)⟩) rfl hl.1 rfl (Nat.le_of_ble_eq_true rfl) dX4_slip_92) ?_
              rw [of_eq1 z0]
              refine lv_istore (lv' := [(7, .int (s_of f zj (nI (zi + 1)))), (6, .int (s_of f zj (-(nI (zi + 1))))), (5, .int (nI (zi + 1))), (4, .int (lt)), (3, .int (bs)), (2, .ref (a 2)), (0, .ref (x 0)), (1, .int (nI zj))]) hx hb dX4_slip_95 hl (by decide) rfl (fun ls hl => ?_)
              refine lv_iload hx hb dX4_slip_97 (lvG hl rfl) ?_
              refine lv_iload hx hb dX4_slip_99 (lvG hl rfl) ?_
              refine lv_icmp_ge (tgt := 111) hx hb dX4_slip_101 (by decide) (fun zc101 => ?_) (fun zc101 => ?_)
              · refine n_iinc (lv' := [(5, .int (nI (zi + 1 + 1))), (7, .int (s_of f zj (nI (zi + 1)))), (6, .int (s_of f zj (-(nI (zi + 1))))), (4, .int (lt)), (3, .int (bs)), (2, .ref (a 2)), (0, .ref (x 0)), (1, .int (nI zj))]) hC dX4_slip_111 hl rfl (by decide) rfl (fun ls hl => ?_)
                refine lv_goto (tgt := 57) hx hb dX4_slip_114 (by decide) ?_
                exact ih_24 (zi + 1) lt bs  (by first | omega | assumption | rfl) (by first | exact hlt | rfl) (by unfold s_sl s_s1 s_s2; rw [← hbs, ← hlt]; first | (rw [if_pos (Int32.not_le.mp zc77)]; first | (rw [if_pos (Int32.not_le.mp zc101)]; done) | (rw [if_neg (Int32.not_lt.mpr zc101)]; done)) | (rw [if_neg (Int32.not_lt.mpr zc77), ← hlt]; first | (rw [if_pos (Int32.not_le.mp zc101)]; done) | (rw [if_neg (Int32.not_lt.mpr zc101)]; done))) (by omega) ls (lv_sub hl [0, 3, 4, 5, 6, 7] rfl)
              · refine lv_iload hx hb dX4_slip_104 (lvG hl rfl) ?_
                refine lv_istore (lv' := [(4, .int (s_of f zj (nI (zi + 1)))), (7, .int (s_of f zj (nI (zi + 1)))), (6, .int (s_of f zj (-(nI (zi + 1))))), (5, .int (nI (zi + 1))), (3, .int (bs)), (2, .ref (a 2)), (0, .ref (x 0)), (1, .int (nI zj))]) hx hb dX4_slip_106 hl (by decide) rfl (fun ls hl => ?_)
                refine lv_iload hx hb dX4_slip_108 (lvG hl rfl) ?_
                refine lv_istore_n (lv' := [(3, .int (nI (zi + 1))), (4, .int (s_of f zj (nI (zi + 1)))), (7, .int (s_of f zj (nI (zi + 1)))), (6, .int (s_of f zj (-(nI (zi + 1))))), (5, .int (nI (zi + 1))), (2, .ref (a 2)), (0, .ref (x 0)), (1, .int (nI zj))]) hx hb dX4_slip_110 rfl hl (by decide) rfl (fun ls hl => ?_)
                refine n_iinc (lv' := [(5, .int (nI (zi + 1 + 1))), (3, .int (nI (zi + 1))), (4, .int (s_of f zj (nI (zi + 1)))), (7, .int (s_of f zj (nI (zi + 1)))), (6, .int (s_of f zj (-(nI (zi + 1))))), (2, .ref (a 2)), (0, .ref (x 0)), (1, .int (nI zj))]) hC dX4_slip_111 hl rfl (by decide) rfl (fun ls hl => ?_)
                refine lv_goto (tgt := 57) hx hb dX4_slip_114 (by decide) ?_
                exact ih_24 (zi + 1) (s_of f zj (nI (zi + 1))) (nI (zi + 1))  (by first | omega | assumption | rfl) (by first | exact hlt | rfl) (by unfold s_sl s_s1 s_s2; rw [← hbs, ← hlt]; first | (rw [if_pos (Int32.not_le.mp zc77)]; first | (rw [if_pos (Int32.not_le.mp zc101)]; done) | (rw [if_neg (Int32.not_lt.mpr zc101)]; done)) | (rw [if_neg (Int32.not_lt.mpr zc77), ← hlt]; first | (rw [if_pos (Int32.not_le.mp zc101)]; done) | (rw [if_neg (Int32.not_lt.mpr zc101)]; done))) (by omega) ls (lv_sub hl [0, 2, 1, 5, 6, 7] rfl)
            · refine lv_iload hx hb dX4_slip_80 (lvG hl rfl) ?_
              refine lv_istore (lv' := [(4, .int (s_of f zj (-(nI (zi + 1))))), (6, .int (s_of f zj (-(nI (zi + 1))))), (5, .int (nI (zi + 1))), (3, .int (bs)), (2, .ref (a 2)), (0, .ref (x 0)), (1, .int (nI zj))]) hx hb dX4_slip_82 hl (by decide) rfl (fun ls hl => ?_)
              refine lv_iload hx hb dX4_slip_84 (lvG hl rfl) ?_
              refine lv_ineg hx hb dX4_slip_86 ?_
              refine lv_istore_n (lv' := [(3, .int (-(nI (zi + 1)))), (4, .int (s_of f zj (-(nI (zi + 1))))), (6, .int (s_of f zj (-(nI (zi + 1))))), (5, .int (nI (zi + 1))), (2, .ref (a 2)), (0, .ref (x 0)), (1, .int (nI zj))]) hx hb dX4_slip_87 rfl hl (by decide) rfl (fun ls hl => ?_)
              refine lv_aload_n hx hb dX4_slip_88 rfl (lvG hl rfl) ?_
              refine lv_aload_n hx hb dX4_slip_89 rfl (lvG hl rfl) ?_
              refine lv_iload hx hb dX4_slip_90 (lvG hl rfl) ?_
              refine k_callPI (k_goV (rest := []) hC hK (c_X4_deviationFrom l g x a n f cn rf tr te (k_fo f ((s_pt f zj))) so (a 2) (f 12) (f 13) (f 14) (f 15) (nI (zi + 1))) L_X4_X4_deviationFrom (⟨⟨Nat.le_of_ble_eq_true rfl, Nat.le_of_ble_eq_true rfl⟩, ⟨rfl, rfl⟩, ⟨Nat.le_of_ble_eq_true rfl, Nat.le_of_ble_eq_true rfl⟩⟩) (k_recv hK hB_20.1 0 rfl rfl) (⟨hB_20, ⟨hT_18, hD_19⟩, (hB_20.1.sub [3] rfl)⟩) rfl hl.1 rfl (Nat.le_of_ble_eq_true rfl) dX4_slip_92) ?_
              rw [of_eq1 z0]
              refine lv_istore (lv' := [(7, .int (s_of f zj (nI (zi + 1)))), (3, .int (-(nI (zi + 1)))), (4, .int (s_of f zj (-(nI (zi + 1))))), (6, .int (s_of f zj (-(nI (zi + 1))))), (5, .int (nI (zi + 1))), (2, .ref (a 2)), (0, .ref (x 0)), (1, .int (nI zj))]) hx hb dX4_slip_95 hl (by decide) rfl (fun ls hl => ?_)
              refine lv_iload hx hb dX4_slip_97 (lvG hl rfl) ?_
              refine lv_iload hx hb dX4_slip_99 (lvG hl rfl) ?_
              refine lv_icmp_ge (tgt := 111) hx hb dX4_slip_101 (by decide) (fun zc101 => ?_) (fun zc101 => ?_)
              · refine n_iinc (lv' := [(5, .int (nI (zi + 1 + 1))), (7, .int (s_of f zj (nI (zi + 1)))), (3, .int (-(nI (zi + 1)))), (4, .int (s_of f zj (-(nI (zi + 1))))), (6, .int (s_of f zj (-(nI (zi + 1))))), (2, .ref (a 2)), (0, .ref (x 0)), (1, .int (nI zj))]) hC dX4_slip_111 hl rfl (by decide) rfl (fun ls hl => ?_)
                refine lv_goto (tgt := 57) hx hb dX4_slip_114 (by decide) ?_
                exact ih_24 (zi + 1) (s_of f zj (-(nI (zi + 1)))) (-(nI (zi + 1)))  (by first | omega | assumption | rfl) (by first | exact hlt | rfl) (by unfold s_sl s_s1 s_s2; rw [← hbs, ← hlt]; first | (rw [if_pos (Int32.not_le.mp zc77)]; first | (rw [if_pos (Int32.not_le.mp zc101)]; done) | (rw [if_neg (Int32.not_lt.mpr zc101)]; done)) | (rw [if_neg (Int32.not_lt.mpr zc77), ← hlt]; first | (rw [if_pos (Int32.not_le.mp zc101)]; done) | (rw [if_neg (Int32.not_lt.mpr zc101)]; done))) (by omega) ls (lv_sub hl [0, 3, 2, 5, 6, 7] rfl)
              · refine lv_iload hx hb dX4_slip_104 (lvG hl rfl) ?_
                refine lv_istore (lv' := [(4, .int (s_of f zj (nI (zi + 1)))), (7, .int (s_of f zj (nI (zi + 1)))), (3, .int (-(nI (zi + 1)))), (6, .int (s_of f zj (-(nI (zi + 1))))), (5, .int (nI (zi + 1))), (2, .ref (a 2)), (0, .ref (x 0)), (1, .int (nI zj))]) hx hb dX4_slip_106 hl (by decide) rfl (fun ls hl => ?_)
                refine lv_iload hx hb dX4_slip_108 (lvG hl rfl) ?_
                refine lv_istore_n (lv' := [(3, .int (nI (zi + 1))), (4, .int (s_of f zj (nI (zi + 1)))), (7, .int (s_of f zj (nI (zi + 1)))), (6, .int (s_of f zj (-(nI (zi + 1))))), (5, .int (nI (zi + 1))), (2, .ref (a 2)), (0, .ref (x 0)), (1, .int (nI zj))]) hx hb dX4_slip_110 rfl hl (by decide) rfl (fun ls hl => ?_)
                refine n_iinc (lv' := [(5, .int (nI (zi + 1 + 1))), (3, .int (nI (zi + 1))), (4, .int (s_of f zj (nI (zi + 1)))), (7, .int (s_of f zj (nI (zi + 1)))), (6, .int (s_of f zj (-(nI (zi + 1))))), (2, .ref (a 2)), (0, .ref (x 0)), (1, .int (nI zj))]) hC dX4_slip_111 hl rfl (by decide) rfl (fun ls hl => ?_)
                refine lv_goto (tgt := 57) hx hb dX4_slip_114 (by decide) ?_
                exact ih_24 (zi + 1) (s_of f zj (nI (zi + 1))) (nI (zi + 1))  (by first | omega | assumption | rfl) (by first | exact hlt | rfl) (by unfold s_sl s_s1 s_s2; rw [← hbs, ← hlt]; first | (rw [if_pos (Int32.not_le.mp zc77)]; first | (rw [if_pos (Int32.not_le.mp zc101)]; done) | (rw [if_neg (Int32.not_lt.mpr zc101)]; done)) | (rw [if_neg (Int32.not_lt.mpr zc77), ← hlt]; first | (rw [if_pos (Int32.not_le.mp zc101)]; done) | (rw [if_neg (Int32.not_lt.mpr zc101)]; done))) (by omega) ls (lv_sub hl [0, 2, 1, 5, 6, 7] rfl)
      exact key_22 ((5 - 0) + 1) 0 (s_of f zj (nI 0)) (nI 0)  (by first | rfl | omega | assumption) (rfl) (rfl) (Nat.lt_succ_self _) ls (lv_sub hl [0, 1, 2, 3, 4, 5] rfl)
  · refine lv_ldc (v := (-2000000001 : Int32)) hx hb hown (hts _ w_204) dX4_slip_8 ?_
    exact k_iretM hC hr hlk hS dX4_slip_10 (⟨by rw [if_neg zc5], XTS ⟨hT, hD⟩⟩)
set_option maxHeartbeats 4000000 in
set_option maxRecDepth 100000 in
theorem c_X4_leakage (l : Launch) (g : kG) (x : Nat → Nat) (a : Nat → Nat) (n : Nat) (f : Nat → Int32) (cn : Nat) (rf : Nat → Option Nat) (hc : f 61 = nI cn) (hcn : cn ≤ 10) (v : Int32) (hX : ∀ j, j < cn → s_ad f (s_pt f j) ≤ 20) (hKc : ∀ j, j < cn → ∀ k, k < 21 → 0 ≤ (s_kc f (s_pt f j) k).toInt ∧ (s_kc f (s_pt f j) k).toInt ≤ 250000) : MI l yX4_leakage cX4_leakage 4 (some .int) (rr 4 88) [.ref (x 0), .int (v)] ((fun H => XB g x a n f cn rf H ∧ XS g x H)) g 0 0 (SC x) (fun r H1 => r = (if s_okC f v then s_lk f (s_pt f (v).toNatClampNeg) else cINV) ∧ XS g x H1) := by
  refine kOf (by decide) (Nat.le_of_ble_eq_true rfl) (fun p e s m below meth c ls hC hr hlk hin hK hP hl => ?_)
  have hx := hC.1
  have hb := hC.2.1
  have hml := hC.2.2.1
  have hown := hC.2.2.2.1
  have hts := hC.2.2.2.2
  have hl : lv_has ls 4 [(0, .ref (x 0)), (1, .int (v))] := hl
  obtain ⟨hB, ⟨tr, te, fo, so, hT, hD⟩⟩ := hP
  have hS : va_S (SC x) s.heap s.heap [] := va_S.rf
  refine lv_aload_n hx hb dX4_leakage_0 rfl (lvG hl rfl) ?_
  refine lv_iload_n hx hb dX4_leakage_1 rfl (lvG hl rfl) ?_
  refine k_callPI (k_goV (rest := []) hC hK (c_X4_isCard l g x a n f cn rf hc hcn v) L_X4_X4_isCard (⟨⟨Nat.le_of_ble_eq_true rfl, Nat.le_of_ble_eq_true rfl⟩, ⟨rfl, rfl⟩, ⟨Nat.le_of_ble_eq_true rfl, Nat.le_of_ble_eq_true rfl⟩⟩) (k_recv hK hB.1 0 rfl rfl) (hB) rfl hl.1 rfl (Nat.le_of_ble_eq_true rfl) dX4_leakage_2) ?_
  refine b_ifne (tgt := 11) hC dX4_leakage_5 (by decide) (fun zc5 => ?_) (fun zc5 => ?_)
  · obtain ⟨zj, h_zj, ev_zj⟩ := in_card (v := v) hcn hc (zc5)
    have e_zj : (v).toNatClampNeg = zj := by rw [ev_zj]; exact nI_clamp (by omega)
    have hl : lv_has ls 4 [(0, .ref (x 0)), (1, .int (nI zj))] := lv_eq hl (by rw [ev_zj])
    obtain ⟨qj, qoj, qij, hrf, hcd, hn1, hn2, hn3⟩ := hB.2.2 zj (by first | assumption | omega)
    have hO : XC g x qj qoj qij (f (62 + 44 * zj)) (f (62 + 44 * zj + 1)) (s_pt f zj) s.heap := ⟨hcd, hn1, hn2, hn3⟩
    have hre := s_re_in f (s_pt f zj)
    have hcu : s_cu f (s_pt f zj) ≤ 20 := (s_co_in (s_pt f zj) (s_bd f (s_pt f zj)) 20 (s_ad f (s_pt f zj))).2 (hX zj h_zj)
    refine lv_aload_n hx hb dX4_leakage_11 rfl (lvG hl rfl) ?_
    refine lv_aload_n hx hb dX4_leakage_12 rfl (lvG hl rfl) ?_
    refine va_get (D := g.1) (ci := 4) (v := .ref (a 0)) (C := RX4) (T := TX4) (N := 7) hx hb hts i_X4 hown hK.1 hB.1 0 rfl rfl 0 (by decide) (hts _ w_175) (fun _ h9 => h9) rfl dX4_leakage_13 ?_
    refine va_get (D := g.1) (ci := 3) (v := .ref (a 6)) (C := RX3) (T := TX3) (N := 13) hx hb hts i_X3 hown hK.1 hB.1 1 rfl rfl 11 (by decide) (hts _ w_144) (fun _ h9 => h9) rfl dX4_leakage_16 ?_
    refine lv_iload_n hx hb dX4_leakage_19 rfl (lvG hl rfl) ?_
    refine q_ald (k := zj) (b := qj) hC hK hB.1 4 rfl (by omega) (by decide) (hrf) dX4_leakage_20 ?_
    refine k_callMV0 (k_goV (rest := []) hC hK (c_X4_findEvents l g x a n f cn rf tr te fo so qj qoj qij (f (62 + 44 * zj)) (f (62 + 44 * zj + 1)) ((s_pt f zj)) (hX zj h_zj)) L_X4_X4_findEvents (⟨⟨Nat.le_of_ble_eq_true rfl, Nat.le_of_ble_eq_true rfl⟩, ⟨rfl, rfl⟩, ⟨Nat.le_of_ble_eq_true rfl, Nat.le_of_ble_eq_true rfl⟩⟩) (k_recv hK hB.1 0 rfl rfl) (⟨hB, ⟨hT, hD⟩, hO⟩) rfl hl.1 rfl (Nat.le_of_ble_eq_true rfl) dX4_leakage_21) hS (fun _ h => h) (fun H_1 locs_2 hQ_3 hz_ hk_5 hS_4 => ?_)
    obtain ⟨hT_6, hD_7⟩ := hQ_3
    have hB_8 : XB g x a n f cn rf H_1 := hB.at hS_4
    have hO_9 := hO.at hS_4
    refine lv_aload_n hx hb dX4_leakage_24 rfl (lvG hl rfl) ?_
    refine va_get (D := g.1) (ci := 4) (v := .ref (x 6)) (C := RX4) (T := TX4) (N := 7) hx hb hts i_X4 hown hK.1 hB_8.1 0 rfl rfl 5 (by decide) (hts _ w_180) (fun _ h9 => h9) rfl dX4_leakage_25 ?_
    refine va_get (D := g.1) (ci := 2) (v := .int (k_fo f ((s_pt f zj)) 2)) (C := RX2) (T := TX2) (N := 4) hx hb hts i_X2 hown hK.1 hT_6 3 rfl rfl 2 (by decide) (hts _ w_73) (fun _ h9 => h9) rfl dX4_leakage_28 ?_
    rw [fo_2]
    refine lv_iconst (v := nI 1) hx hb dX4_leakage_31 (by decide) ?_
    refine n_isub hC dX4_leakage_32 (hre.1) ?_
    refine lv_istore_n (lv' := [(2, .int (nI ((s_re f (s_pt f zj)) - 1))), (0, .ref (x 0)), (1, .int (nI zj))]) hx hb dX4_leakage_33 rfl hl (by decide) rfl (fun ls hl => ?_)
    refine lv_aload_n hx hb dX4_leakage_34 rfl (lvG hl rfl) ?_
    refine lv_aload_n hx hb dX4_leakage_35 rfl (lvG hl rfl) ?_
    refine va_get (D := g.1) (ci := 4) (v := .ref (a 0)) (C := RX4) (T := TX4) (N := 7) hx hb hts i_X4 hown hK.1 hB_8.1 0 rfl rfl 0 (by decide) (hts _ w_175) (fun _ h9 => h9) rfl dX4_leakage_36 ?_
    refine va_get (D := g.1) (ci := 3) (v := .ref (a 6)) (C := RX3) (T := TX3) (N := 13) hx hb hts i_X3 hown hK.1 hB_8.1 1 rfl rfl 11 (by decide) (hts _ w_144) (fun _ h9 => h9) rfl dX4_leakage_39 ?_
    refine lv_iload_n hx hb dX4_leakage_42 rfl (lvG hl rfl) ?_
    refine q_ald (k := zj) (b := qj) hC hK hB_8.1 4 rfl (by omega) (by decide) (hrf) dX4_leakage_43 ?_
    refine lv_aload_n hx hb dX4_leakage_44 rfl (lvG hl rfl) ?_
    refine va_get (D := g.1) (ci := 4) (v := .ref (x 6)) (C := RX4) (T := TX4) (N := 7) hx hb hts i_X4 hown hK.1 hB_8.1 0 rfl rfl 5 (by decide) (hts _ w_180) (fun _ h9 => h9) rfl dX4_leakage_45 ?_
    refine va_get (D := g.1) (ci := 2) (v := .int (k_fo f ((s_pt f zj)) 1)) (C := RX2) (T := TX2) (N := 4) hx hb hts i_X2 hown hK.1 hT_6 3 rfl rfl 1 (by decide) (hts _ w_71) (fun _ h9 => h9) rfl dX4_leakage_48 ?_
    rw [fo_1]
    refine k_callPI (k_goV (rest := []) hC hK (c_X4_constantAt l g x a n f cn rf qj qoj qij (f (62 + 44 * zj)) (f (62 + 44 * zj + 1)) ((s_pt f zj)) (s_cu f (s_pt f zj)) (by first | assumption | omega)) L_X4_X4_constantAt (⟨⟨Nat.le_of_ble_eq_true rfl, Nat.le_of_ble_eq_true rfl⟩, ⟨rfl, rfl⟩, ⟨Nat.le_of_ble_eq_true rfl, Nat.le_of_ble_eq_true rfl⟩⟩) (k_recv hK hB_8.1 0 rfl rfl) (⟨hB_8, hO_9.1⟩) rfl hl.1 rfl (Nat.le_of_ble_eq_true rfl) dX4_leakage_51) ?_
    refine lv_istore_n (lv' := [(3, .int (s_kc f ((s_pt f zj)) (s_cu f (s_pt f zj)))), (2, .int (nI ((s_re f (s_pt f zj)) - 1))), (0, .ref (x 0)), (1, .int (nI zj))]) hx hb dX4_leakage_54 rfl hl (by decide) rfl (fun ls hl => ?_)
    refine lv_iload_n hx hb dX4_leakage_55 rfl (lvG hl rfl) ?_
    refine lv_aload_n hx hb dX4_leakage_56 rfl (lvG hl rfl) ?_
    refine va_get (D := g.1) (ci := 4) (v := .ref (x 6)) (C := RX4) (T := TX4) (N := 7) hx hb hts i_X4 hown hK.1 hB_8.1 0 rfl rfl 5 (by decide) (hts _ w_180) (fun _ h9 => h9) rfl dX4_leakage_57 ?_
    refine va_get (D := g.1) (ci := 2) (v := .int (k_fo f ((s_pt f zj)) 1)) (C := RX2) (T := TX2) (N := 4) hx hb hts i_X2 hown hK.1 hT_6 3 rfl rfl 1 (by decide) (hts _ w_71) (fun _ h9 => h9) rfl dX4_leakage_60 ?_
    rw [fo_1]
    refine n_icmp_le (tgt := 70) hC dX4_leakage_63 (by omega) (by omega) (by decide) (fun zc63 => ?_) (fun zc63 => ?_)
    · refine lv_ldc (v := (-2000000004 : Int32)) hx hb hown (hts _ w_433) dX4_leakage_70 ?_
      exact k_iretM hC hr hlk hS_4 dX4_leakage_72 (⟨by rw [if_pos zc5, e_zj]; unfold s_lk; first | (rw [if_pos (Or.inl zc63)]; done) | (rw [if_pos (Or.inr zc67)]; done), XTS ⟨hT_6, hD_7⟩⟩)
    · refine lv_iload_n hx hb dX4_leakage_66 rfl (lvG hl rfl) ?_
      refine z_if_ne (tgt := 73) hC dX4_leakage_67 (by decide) (fun zc67 => ?_) (fun zc67 => ?_)
      · refine lv_aload_n hx hb dX4_leakage_73 rfl (lvG hl rfl) ?_
        refine lv_aload_n hx hb dX4_leakage_74 rfl (lvG hl rfl) ?_
        refine va_get (D := g.1) (ci := 4) (v := .ref (a 0)) (C := RX4) (T := TX4) (N := 7) hx hb hts i_X4 hown hK.1 hB_8.1 0 rfl rfl 0 (by decide) (hts _ w_175) (fun _ h9 => h9) rfl dX4_leakage_75 ?_
        refine va_get (D := g.1) (ci := 3) (v := .ref (a 6)) (C := RX3) (T := TX3) (N := 13) hx hb hts i_X3 hown hK.1 hB_8.1 1 rfl rfl 11 (by decide) (hts _ w_144) (fun _ h9 => h9) rfl dX4_leakage_78 ?_
        refine lv_iload_n hx hb dX4_leakage_81 rfl (lvG hl rfl) ?_
        refine q_ald (k := zj) (b := qj) hC hK hB_8.1 4 rfl (by omega) (by decide) (hrf) dX4_leakage_82 ?_
        refine lv_iload_n hx hb dX4_leakage_83 rfl (lvG hl rfl) ?_
        refine k_callPI (k_goV (rest := []) hC hK (c_X4_constantAt l g x a n f cn rf qj qoj qij (f (62 + 44 * zj)) (f (62 + 44 * zj + 1)) ((s_pt f zj)) ((s_re f (s_pt f zj)) - 1) (by first | assumption | omega)) L_X4_X4_constantAt (⟨⟨Nat.le_of_ble_eq_true rfl, Nat.le_of_ble_eq_true rfl⟩, ⟨rfl, rfl⟩, ⟨Nat.le_of_ble_eq_true rfl, Nat.le_of_ble_eq_true rfl⟩⟩) (k_recv hK hB_8.1 0 rfl rfl) (⟨hB_8, hO_9.1⟩) rfl hl.1 rfl (Nat.le_of_ble_eq_true rfl) dX4_leakage_84) ?_
        refine lv_iload_n hx hb dX4_leakage_87 rfl (lvG hl rfl) ?_
        refine lv_isub hx hb dX4_leakage_88 ?_
        refine lv_sipush (v := nI 1000) hx hb dX4_leakage_89 (by decide) ?_
        refine lv_imul hx hb dX4_leakage_92 ?_
        refine lv_iload_n hx hb dX4_leakage_93 rfl (lvG hl rfl) ?_
        refine k_callPI (k_goS (rest := []) hC hK (c_X4_quotient l g (((s_kc f ((s_pt f zj)) ((s_re f (s_pt f zj)) - 1)) - (s_kc f ((s_pt f zj)) (s_cu f (s_pt f zj)))) * (nI 1000)) (s_kc f ((s_pt f zj)) (s_cu f (s_pt f zj)))) L_X4_X4_quotient (⟨⟨Nat.le_of_ble_eq_true rfl, Nat.le_of_ble_eq_true rfl⟩, ⟨rfl, rfl⟩, ⟨Nat.le_of_ble_eq_true rfl, Nat.le_of_ble_eq_true rfl⟩⟩) (trivial) rfl hl.1 rfl (Nat.le_of_ble_eq_true rfl) dX4_leakage_94) ?_
        exact k_iretM hC hr hlk hS_4 dX4_leakage_97 (⟨by rw [if_pos zc5, e_zj]; unfold s_lk; rw [if_neg (fun q => q.elim zc63 zc67)]; exact lk_eq (hKc zj h_zj _ (by omega)) (hKc zj h_zj _ (by omega)) zc67, XTS ⟨hT_6, hD_7⟩⟩)
      · refine lv_ldc (v := (-2000000004 : Int32)) hx hb hown (hts _ w_433) dX4_leakage_70 ?_
        exact k_iretM hC hr hlk hS_4 dX4_leakage_72 (⟨by rw [if_pos zc5, e_zj]; unfold s_lk; first | (rw [if_pos (Or.inl zc63)]; done) | (rw [if_pos (Or.inr zc67)]; done), XTS ⟨hT_6, hD_7⟩⟩)
  · refine lv_ldc (v := (-2000000001 : Int32)) hx hb hown (hts _ w_204) dX4_leakage_8 ?_
    exact k_iretM hC hr hlk hS dX4_leakage_10 (⟨by rw [if_neg zc5], XTS ⟨hT, hD⟩⟩)
