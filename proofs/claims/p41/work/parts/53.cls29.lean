section RO
variable {g : kG} {x a : Nat → Nat} {M : Nat → Prop} {f F : Nat → Int32} {n cn rc : Nat} {H : Heap} {en pct : Int32}
theorem ro_i (h : ¬ ((nI 0 ≤ en ∧ en ≤ nI 1) ∧ (nI 0 ≤ pct ∧ pct ≤ nI 100))) (hX : XW g x a M f n H) : cINV = s_roR f n en pct cn ∧ XW g x a M (s_roF f n en pct cn) (s_roN f n en pct cn) H := by
  unfold s_roR s_roF s_roN
  rw [if_neg h, if_neg (fun q => h q.1), if_neg (fun q => h q.1)]
  exact ⟨rfl, hX⟩
theorem ro_n (h : (nI 0 ≤ en ∧ en ≤ nI 1) ∧ (nI 0 ≤ pct ∧ pct ≤ nI 100)) (h2 : s_mn f en cn = 0) (hX : XW g x a M f n H) : cILL = s_roR f n en pct cn ∧ XW g x a M (s_roF f n en pct cn) (s_roN f n en pct cn) H := by
  unfold s_roR s_roF s_roN
  rw [if_pos h, if_pos h2, if_neg (fun q => q.2 h2), if_neg (fun q => q.2 h2)]
  exact ⟨rfl, hX⟩
theorem ro_t (h : (nI 0 ≤ en ∧ en ≤ nI 1) ∧ (nI 0 ≤ pct ∧ pct ≤ nI 100)) (h2 : ¬ s_mn f en cn = 0) (e : (F, rc) = s_rro f n en pct cn) (hX : XW g x a M F (s_recn n) H) : nI rc = s_roR f n en pct cn ∧ XW g x a M (s_roF f n en pct cn) (s_roN f n en pct cn) H := by
  unfold s_roR s_roF s_roN
  rw [if_pos h, if_neg h2, if_pos ⟨h, h2⟩, if_pos ⟨h, h2⟩, ← e]
  exact ⟨rfl, hX⟩
theorem sub1 (k : Nat) : nI k - nI 1 = nI k + (-1 : Int32) := by rw [Int32.sub_eq_add_neg]; rfl
end RO
theorem L_X4_X4_medianArea : LnkV RX4 261 yX4_medianArea cX4_medianArea 4 (some .int) 1 := ⟨w_605, w_607, w_22, w_25, w_608, ⟨by decide +kernel, by decide +kernel⟩, by decide +kernel⟩
theorem L_X4_X4_isOutlier : LnkS RX4 264 yX4_isOutlier cX4_isOutlier 3 (some .boolean) 3 := ⟨w_613, w_614, w_25, w_615, ⟨by decide +kernel, by decide +kernel⟩, by decide +kernel⟩
set_option maxHeartbeats 4000000 in
set_option maxRecDepth 100000 in
theorem c_X4_removeOutliers (l : Launch) (g : kG) (x : Nat → Nat) (a : Nat → Nat) (M : Nat → Prop) (f : Nat → Int32) (n : Nat) (cn : Nat) (hc : f 61 = nI cn) (hcn : cn ≤ 10) (en : Int32) (pct : Int32) : MI l yX4_removeOutliers cX4_removeOutliers 6 (some .int) (rr 4 103) [.ref (x 0), .int (en), .int (pct)] ((XW g x a M f n)) g 0 0 (MF x M) (fun r H1 => r = s_roR f n en pct cn ∧ XW g x a M (s_roF f n en pct cn) (s_roN f n en pct cn) H1) := by
  refine kOf (by decide) (Nat.le_of_ble_eq_true rfl) (fun p e s m below meth c ls hC hr hlk hin hK hP hl => ?_)
  have hx := hC.1
  have hb := hC.2.1
  have hml := hC.2.2.1
  have hown := hC.2.2.2.1
  have hts := hC.2.2.2.2
  have hl : lv_has ls 6 [(0, .ref (x 0)), (1, .int (en)), (2, .int (pct))] := hl
  have hXW := hP
  obtain ⟨hn4, hm, hx0, d, r, hs, w0, hM, hD, hR, hB⟩ := hXW
  obtain ⟨ws, ews⟩ := hR.trial
  subst ews
  have hXW : XW g x a M f n s.heap := XW.mk hn4 hm hx0 hM hD hR hB
  have hF : KF M s.heap s.heap := KF.rf
  have hS : va_S (MF x M) s.heap s.heap [] := va_S.rf
  have hDM := hD
  have hD := va_D.weaken (B := MF x M) hD (fun k q h c => (fun _ h => Or.inl h) _ c)
  have hmn := s_mn_le f en cn
  refine lv_iload_n hx hb dX4_removeOutliers_0 rfl (lvG hl rfl) ?_
  refine k_callPI (k_goS (rest := []) hC hK (c_X4_isEnd l g en) L_X4_X4_isEnd (⟨⟨Nat.le_of_ble_eq_true rfl, Nat.le_of_ble_eq_true rfl⟩, ⟨rfl, rfl⟩, ⟨Nat.le_of_ble_eq_true rfl, Nat.le_of_ble_eq_true rfl⟩⟩) (trivial) rfl hl.1 rfl (Nat.le_of_ble_eq_true rfl) dX4_removeOutliers_1) ?_
  refine b_ifeq (tgt := 17) hC dX4_removeOutliers_4 (by decide) (fun zc4 => ?_) (fun zc4 => ?_)
  · refine lv_ldc (v := (-2000000001 : Int32)) hx hb hown (hts _ w_204) dX4_removeOutliers_17 ?_
    exact k_iretM hC hr hlk hS dX4_removeOutliers_19 (by first | exact ro_i (fun q => zc4 q.1) hXW | exact ro_i (fun q => zc14 q.2) hXW)
  · refine lv_iload_n hx hb dX4_removeOutliers_7 rfl (lvG hl rfl) ?_
    refine lv_iconst (v := nI 0) hx hb dX4_removeOutliers_8 (by decide) ?_
    refine lv_bipush (v := nI 100) hx hb dX4_removeOutliers_9 (by decide) ?_
    refine k_callPI (k_goS (rest := []) hC hK (c_X4_isWithin l g pct (nI 0) (nI 100)) L_X4_X4_isWithin (⟨⟨Nat.le_of_ble_eq_true rfl, Nat.le_of_ble_eq_true rfl⟩, ⟨rfl, rfl⟩, ⟨Nat.le_of_ble_eq_true rfl, Nat.le_of_ble_eq_true rfl⟩⟩) (trivial) rfl hl.1 rfl (Nat.le_of_ble_eq_true rfl) dX4_removeOutliers_11) ?_
    refine b_ifne (tgt := 20) hC dX4_removeOutliers_14 (by decide) (fun zc14 => ?_) (fun zc14 => ?_)
    · refine lv_aload_n hx hb dX4_removeOutliers_20 rfl (lvG hl rfl) ?_
      refine lv_iload_n hx hb dX4_removeOutliers_21 rfl (lvG hl rfl) ?_
      refine k_callPI (k_goV (rest := []) hC hK (c_X4_countCards l g x a n f cn r hc hcn en) L_X4_X4_countCards (⟨⟨Nat.le_of_ble_eq_true rfl, Nat.le_of_ble_eq_true rfl⟩, ⟨rfl, rfl⟩, ⟨Nat.le_of_ble_eq_true rfl, Nat.le_of_ble_eq_true rfl⟩⟩) (k_recv hK hM 0 rfl rfl) ((XW.xb (ws := cTr x :: ws) hc hcn hm hM hDM hR hB)) rfl hl.1 rfl (Nat.le_of_ble_eq_true rfl) dX4_removeOutliers_22) ?_
      refine n_if_ne (tgt := 31) hC dX4_removeOutliers_25 (by omega) (by decide) (fun zc25 => ?_) (fun zc25 => ?_)
      · refine lv_aload_n hx hb dX4_removeOutliers_31 rfl (lvG hl rfl) ?_
        refine k_callMV0 (k_goV (rest := []) hC hK (c_X4_recordState l g x a M f n) L_X4_X4_recordState (⟨⟨Nat.le_of_ble_eq_true rfl, Nat.le_of_ble_eq_true rfl⟩, ⟨rfl, rfl⟩, ⟨Nat.le_of_ble_eq_true rfl, Nat.le_of_ble_eq_true rfl⟩⟩) (k_recv hK hM 0 rfl rfl) (hXW) rfl hl.1 rfl (Nat.le_of_ble_eq_true rfl) dX4_removeOutliers_32) hS (fun _ h => Or.inl h) (fun H_1 locs_2 hQ_3 hz_ hk_5 hS_4 => ?_)
        obtain ⟨f6, ef6⟩ : ∃ z, z = s_rec f n := ⟨_, rfl⟩
        rw [← ef6] at hQ_3
        obtain ⟨hn6, hm6, hx06, d6, r6, hs6, w06, hM6, hD6, hR6, hB6⟩ := hQ_3
        obtain ⟨ws6, ews6⟩ := hR6.trial
        subst ews6
        have hXW6 := XW.mk hn6 hm6 hx06 hM6 hD6 hR6 hB6
        have hF6 : KF M H_1 H_1 := KF.rf
        have hDM6 := hD6
        have hD6 := va_D.weaken (B := MF x M) hD6 (fun k q h c => (fun _ h => Or.inl h) _ c)
        have hcM : f6 61 = nI cn := by rw [ef6, s_rec_lo _ _ (by omega), hc]
        obtain ⟨trM, teM, foM, soM, hTM, hDTM⟩ := hXW6.2.2.1
        refine lv_aload_n hx hb dX4_removeOutliers_35 rfl (lvG hl rfl) ?_
        refine lv_iload_n hx hb dX4_removeOutliers_36 rfl (lvG hl rfl) ?_
        refine k_callMI0 (k_goV (rest := []) hC hK (c_X4_medianArea l g x a (s_recn n) f6 cn r6 trM teM foM soM hcM hcn en) L_X4_X4_medianArea (⟨⟨Nat.le_of_ble_eq_true rfl, Nat.le_of_ble_eq_true rfl⟩, ⟨rfl, rfl⟩, ⟨Nat.le_of_ble_eq_true rfl, Nat.le_of_ble_eq_true rfl⟩⟩) (k_recv hK hM6 0 rfl rfl) (⟨XW.xb (ws := cTr x :: ws6) hcM hcn hm6 hM6 hDM6 hR6 hB6, ⟨hTM, hDTM⟩⟩) rfl hl.1 rfl (Nat.le_of_ble_eq_true rfl) dX4_removeOutliers_37) hS_4 (fun q c => Or.inr c) (fun r_ H_7 locs_8 hQ_9 hz_ hk_11 hS_10 => ?_)
        obtain ⟨hv_m, hxs_m⟩ := hQ_9
        have hmd : r_ = s_mdn (s_rec f n) en cn := by rw [hv_m, mdn_eq hcn (by rw [ef6, s_mn_eq (F := s_rec f n) (f := f) en cn hcn (fun j hj => s_rec_lo f n hj)]; exact Nat.pos_of_ne_zero zc25), ef6]
        obtain ⟨rq, -, -, hback⟩ := XW.q hXW6 hcM hcn
        have hXn_12 := hback _ hk_11 hxs_m
        obtain ⟨f13, ef13⟩ : ∃ z, z = f6 := ⟨_, rfl⟩
        rw [← ef13] at hXn_12
        obtain ⟨hn13, hm13, hx013, d13, r13, hs13, w013, hM13, hD13, hR13, hB13⟩ := hXn_12
        obtain ⟨ws13, ews13⟩ := hR13.trial
        subst ews13
        have hXW13 := XW.mk hn13 hm13 hx013 hM13 hD13 hR13 hB13
        have hF13 : KF M H_7 H_7 := KF.rf
        have hDM13 := hD13
        have hD13 := va_D.weaken (B := MF x M) hD13 (fun k q h c => (fun _ h => Or.inl h) _ c)
        have eR : f13 = s_rec f n := ef13.trans ef6
        have hcR : f13 61 = nI cn := by rw [eR, s_rec_lo _ _ (by omega), hc]
        refine lv_istore_n (lv' := [(3, .int (r_)), (0, .ref (x 0)), (1, .int (en)), (2, .int (pct))]) hx hb dX4_removeOutliers_40 rfl hl (by decide) rfl (fun ls hl => ?_)
        refine lv_iconst (v := nI 0) hx hb dX4_removeOutliers_41 (by decide) ?_
        refine lv_istore (lv' := [(4, .int (nI 0)), (3, .int (r_)), (0, .ref (x 0)), (1, .int (en)), (2, .int (pct))]) hx hb dX4_removeOutliers_42 hl (by decide) rfl (fun ls hl => ?_)
        refine lv_aload_n hx hb dX4_removeOutliers_44 rfl (lvG hl rfl) ?_
        refine va_get (D := g.1) (ci := 4) (v := .ref (a 0)) (C := RX4) (T := TX4) (N := 7) hx hb hts i_X4 hown hK.1 hM13 0 rfl rfl 0 (by decide) (hts _ w_175) (fun _ h9 => h9) rfl dX4_removeOutliers_45 ?_
        refine va_get (D := g.1) (ci := 3) (v := .int (f13 61)) (C := RX3) (T := TX3) (N := 13) hx hb hts i_X3 hown hK.1 hM13 2 rfl rfl 12 (by decide) (hts _ w_146) (fun _ h9 => h9) rfl dX4_removeOutliers_48 ?_
        rw [hcR]
        refine lv_iconst (v := nI 1) hx hb dX4_removeOutliers_51 (by decide) ?_
        refine lv_isub hx hb dX4_removeOutliers_52 ?_
        refine lv_istore (lv' := [(5, .int ((nI cn) - (nI 1))), (4, .int (nI 0)), (3, .int (r_)), (0, .ref (x 0)), (1, .int (en)), (2, .int (pct))]) hx hb dX4_removeOutliers_53 hl (by decide) rfl (fun ls hl => ?_)
        have hl : lv_has ls 6 [(5, .int (nI cn + (-1))), (4, .int (nI 0)), (3, .int (r_)), (0, .ref (x 0)), (1, .int (en)), (2, .int (pct))] := lv_eq hl (by rw [sub1])
        have key_14 : ∀ (k_15 : Nat) (rcn : Nat) (zw : Nat) (F9 : Nat → Int32) (H9 : Heap) (locs9 : List Loc) (hX9 : XW g x a M F9 (s_recn n) H9) (hS9 : va_S (MF x M) s.heap H9 locs9) (hE9 : ∃ ct, F9 61 = nI ct ∧ ct ≤ cn ∧ zw ≤ ct ∧ s_ro en pct r_ zw F9 ct rcn = s_rro f n en pct cn) (hk_k_15 : zw < k_15) (ls : Array Slot) (hl : lv_has ls 6 [(5, .int (nI zw + (-1))), (4, .int (nI rcn)), (3, .int (r_)), (0, .ref (x 0)), (1, .int (en)), (2, .int (pct))]), W p l e (rr 4 103) s m [.ref (x 0), .int (en), .int (pct)].toArray below meth c H9 locs9 0 0 (MQ below (qI (MF x M) (fun r H1 => r = s_roR f n en pct cn ∧ XW g x a M (s_roF f n en pct cn) (s_roN f n en pct cn) H1)) [.ref (x 0), .int (en), .int (pct)].toArray s 0 0 (MF x M)) (F0 m 55 ls ([])) := by
          intro k_15
          induction k_15 with
          | zero => intro rcn zw F9 H9 locs9 hX9 hS9 hE9 hk_k_15 ls hl; exact absurd hk_k_15 (Nat.not_lt_zero _)
          | succ k_15 ih_16 =>
            intro rcn zw F9 H9 locs9 hX9 hS9 hE9 hk_k_15 ls hl
            obtain ⟨ct, h61, hct, hx1, hst⟩ := hE9
            obtain ⟨hn49, hm9, hx09, d9, r9, hs9, w09, hM9, hD9, hR9, hB9⟩ := hX9
            obtain ⟨ws9, ews9⟩ := hR9.trial
            subst ews9
            have hX9 := XW.mk hn49 hm9 hx09 hM9 hD9 hR9 hB9
            have hF9 : KF M H9 H9 := KF.rf
            have hDM9 := hD9
            have hD9 := va_D.weaken (B := MF x M) hD9 (fun k q h c => Or.inl c)
            refine lv_iload hx hb dX4_removeOutliers_55 (lvG hl rfl) ?_
            refine z_if_lt (tgt := 113) hC dX4_removeOutliers_57 (by decide) (fun zc57 => ?_) (fun zc57 => ?_)
            · refine lv_iload hx hb dX4_removeOutliers_113 (lvG hl rfl) ?_
              exact k_iretM hC hr hlk hS9 dX4_removeOutliers_115 (ro_t ⟨zc4, zc14⟩ zc25 (by rw [show zw = 0 from (pd_lt (by omega)).mp zc57] at hst; exact hst) hX9)
            · obtain ⟨zq, rfl⟩ : ∃ z, zw = z + 1 := ⟨zw - 1, by have := mt (pd_lt (x := zw) (by omega)).mpr zc57; omega⟩
              have hl : lv_has ls 6 [(5, .int (nI zq)), (4, .int (nI rcn)), (3, .int (r_)), (0, .ref (x 0)), (1, .int (en)), (2, .int (pct))] := lv_eq hl (by rw [pk_m1])
              obtain ⟨qj, qoj, qij, ej, hcd, hn1, hn2, hn3⟩ := hB9.2.2.2 zq (by rw [h61, nI_clamp (by omega)]; omega) (by omega)
              refine lv_aload_n hx hb dX4_removeOutliers_60 rfl (lvG hl rfl) ?_
              refine va_get (D := g.1) (ci := 4) (v := .ref (a 0)) (C := RX4) (T := TX4) (N := 7) hx hb hts i_X4 hown hK.1 hM9 0 rfl rfl 0 (by decide) (hts _ w_175) (fun _ h9 => h9) rfl dX4_removeOutliers_61 ?_
              refine va_get (D := g.1) (ci := 3) (v := .ref (a 6)) (C := RX3) (T := TX3) (N := 13) hx hb hts i_X3 hown hK.1 hM9 2 rfl rfl 11 (by decide) (hts _ w_144) (fun _ h9 => h9) rfl dX4_removeOutliers_64 ?_
              refine lv_iload hx hb dX4_removeOutliers_67 (lvG hl rfl) ?_
              refine q_ald (k := zq) (b := qj) hC hK hM9 3 rfl (by omega) (by decide) (ej) dX4_removeOutliers_69 ?_
              refine va_get (D := g.1) (ci := 0) (v := .int (F9 (62 + 44 * zq))) (C := RX0) (T := TX0) (N := 4) hx hb hts i_X0 hown hK.1 hcd 0 rfl rfl 0 (by decide) (hts _ w_46) (fun _ h9 => h9) rfl dX4_removeOutliers_70 ?_
              refine lv_iload_n hx hb dX4_removeOutliers_73 rfl (lvG hl rfl) ?_
              refine lv_icmp_ne (tgt := 107) hx hb dX4_removeOutliers_74 (by decide) (fun zc74 => ?_) (fun zc74 => ?_)
              · refine lv_iinc (v := (nI zq) + (-1)) (lv' := [(5, .int ((nI zq) + (-1))), (4, .int (nI rcn)), (3, .int (r_)), (0, .ref (x 0)), (1, .int (en)), (2, .int (pct))]) hx hb dX4_removeOutliers_107 hl (k := 0) rfl rfl (by decide) rfl (fun ls hl => ?_)
                refine lv_goto (tgt := 55) hx hb dX4_removeOutliers_110 (by decide) ?_
                exact ih_16 rcn zq F9 _ _ hX9 hS9 (by first | exact ⟨ct - 1, by rw [ef13]; exact rm_61, by omega, by omega, by rw [ef13]; exact (s_ro_t ⟨zc74, zc92⟩).symm.trans hst⟩ | exact ⟨ct, h61, hct, by omega, (s_ro_f (fun q => zc74 q.1)).symm.trans hst⟩ | exact ⟨ct, h61, hct, by omega, (s_ro_f (fun q => zc92 q.2)).symm.trans hst⟩) (by omega) ls (lv_sub hl [0, 1, 2, 3, 4, 5] rfl)
              · refine lv_aload_n hx hb dX4_removeOutliers_77 rfl (lvG hl rfl) ?_
                refine va_get (D := g.1) (ci := 4) (v := .ref (a 0)) (C := RX4) (T := TX4) (N := 7) hx hb hts i_X4 hown hK.1 hM9 0 rfl rfl 0 (by decide) (hts _ w_175) (fun _ h9 => h9) rfl dX4_removeOutliers_78 ?_
                refine va_get (D := g.1) (ci := 3) (v := .ref (a 6)) (C := RX3) (T := TX3) (N := 13) hx hb hts i_X3 hown hK.1 hM9 2 rfl rfl 11 (by decide) (hts _ w_144) (fun _ h9 => h9) rfl dX4_removeOutliers_81 ?_
                refine lv_iload hx hb dX4_removeOutliers_84 (lvG hl rfl) ?_
                refine q_ald (k := zq) (b := qj) hC hK hM9 3 rfl (by omega) (by decide) (ej) dX4_removeOutliers_86 ?_
                refine lv_iload_n hx hb dX4_removeOutliers_87 rfl (lvG hl rfl) ?_
                refine lv_iload_n hx hb dX4_removeOutliers_88 rfl (lvG hl rfl) ?_
                refine k_callPI (k_goS (rest := []) hC hK (c_X4_isOutlier l g qj qoj qij (F9 (62 + 44 * zq)) (F9 (62 + 44 * zq + 1)) ((s_pt F9 zq)) r_ pct) L_X4_X4_isOutlier (⟨⟨Nat.le_of_ble_eq_true rfl, Nat.le_of_ble_eq_true rfl⟩, ⟨rfl, rfl⟩, ⟨Nat.le_of_ble_eq_true rfl, Nat.le_of_ble_eq_true rfl⟩⟩) (hcd) rfl hl.1 rfl (Nat.le_of_ble_eq_true rfl) dX4_removeOutliers_89) ?_
                refine b_ifeq (tgt := 107) hC dX4_removeOutliers_92 (by decide) (fun zc92 => ?_) (fun zc92 => ?_)
                · refine lv_iinc (v := (nI zq) + (-1)) (lv' := [(5, .int ((nI zq) + (-1))), (4, .int (nI rcn)), (3, .int (r_)), (0, .ref (x 0)), (1, .int (en)), (2, .int (pct))]) hx hb dX4_removeOutliers_107 hl (k := 0) rfl rfl (by decide) rfl (fun ls hl => ?_)
                  refine lv_goto (tgt := 55) hx hb dX4_removeOutliers_110 (by decide) ?_
                  exact ih_16 rcn zq F9 _ _ hX9 hS9 (by first | exact ⟨ct - 1, by rw [ef13]; exact rm_61, by omega, by omega, by rw [ef13]; exact (s_ro_t ⟨zc74, zc92⟩).symm.trans hst⟩ | exact ⟨ct, h61, hct, by omega, (s_ro_f (fun q => zc74 q.1)).symm.trans hst⟩ | exact ⟨ct, h61, hct, by omega, (s_ro_f (fun q => zc92 q.2)).symm.trans hst⟩) (by omega) ls (lv_sub hl [0, 1, 2, 3, 4, 5] rfl)
                · refine lv_aload_n hx hb dX4_removeOutliers_95 rfl (lvG hl rfl) ?_
                  refine va_get (D := g.1) (ci := 4) (v := .ref (a 0)) (C := RX4) (T := TX4) (N := 7) hx hb hts i_X4 hown hK.1 hM9 0 rfl rfl 0 (by decide) (hts _ w_175) (fun _ h9 => h9) rfl dX4_removeOutliers_96 ?_
                  refine lv_iload hx hb dX4_removeOutliers_99 (lvG hl rfl) ?_
                  refine k_callMV0 (k_goV (rest := []) hC hK (c_X3_dropCard l g x a M F9 (s_recn n) (ct) (h61) (by omega) zq (by omega)) L_X4_X3_dropCard (⟨⟨Nat.le_of_ble_eq_true rfl, Nat.le_of_ble_eq_true rfl⟩, ⟨rfl, rfl⟩, ⟨Nat.le_of_ble_eq_true rfl, Nat.le_of_ble_eq_true rfl⟩⟩) (k_recv hK hM9 2 rfl rfl) (hX9) rfl hl.1 rfl (Nat.le_of_ble_eq_true rfl) dX4_removeOutliers_101) hS9 (fun _ h => Or.inl h) (fun H_17 locs_18 hQ_19 hz_ hk_21 hS_20 => ?_)
                  obtain ⟨f22, ef22⟩ : ∃ z, z = s_rmU F9 zq (ct) := ⟨_, rfl⟩
                  rw [← ef22] at hQ_19
                  obtain ⟨hn22, hm22, hx022, d22, r22, hs22, w022, hM22, hD22, hR22, hB22⟩ := hQ_19
                  obtain ⟨ws22, ews22⟩ := hR22.trial
                  subst ews22
                  have hXW22 := XW.mk hn22 hm22 hx022 hM22 hD22 hR22 hB22
                  have hF22 : KF M H_17 H_17 := KF.rf
                  have hDM22 := hD22
                  have hD22 := va_D.weaken (B := MF x M) hD22 (fun k q h c => (fun _ h => Or.inl h) _ c)
                  refine n_iinc (lv' := [(4, .int (nI (rcn + 1))), (5, .int (nI zq)), (3, .int (r_)), (0, .ref (x 0)), (1, .int (en)), (2, .int (pct))]) hC dX4_removeOutliers_104 hl rfl (by decide) rfl (fun ls hl => ?_)
                  refine lv_iinc (v := (nI zq) + (-1)) (lv' := [(5, .int ((nI zq) + (-1))), (4, .int (nI (rcn + 1))), (3, .int (r_)), (0, .ref (x 0)), (1, .int (en)), (2, .int (pct))]) hx hb dX4_removeOutliers_107 hl (k := 1) rfl rfl (by decide) rfl (fun ls hl => ?_)
                  refine lv_goto (tgt := 55) hx hb dX4_removeOutliers_110 (by decide) ?_
                  exact ih_16 (rcn + 1) zq f22 _ _ hXW22 hS_20 (by first | exact ⟨ct - 1, by rw [ef22]; exact rm_61, by omega, by omega, by rw [ef22]; exact (s_ro_t ⟨zc74, zc92⟩).symm.trans hst⟩ | exact ⟨ct, h61, hct, by omega, (s_ro_f (fun q => zc74 q.1)).symm.trans hst⟩ | exact ⟨ct, h61, hct, by omega, (s_ro_f (fun q => zc92 q.2)).symm.trans hst⟩) (by omega) ls (lv_sub hl [0, 1, 2, 3, 4, 5] rfl)
        exact key_14 (cn + 1) 0 cn f13 _ _ hXW13 hS_10 (⟨cn, hcR, Nat.le_refl _, Nat.le_refl _, by rw [hmd, eR]; rfl⟩) (Nat.lt_succ_self _) ls (lv_sub hl [0, 1, 2, 3, 4, 5] rfl)
      · refine lv_ldc (v := (-2000000002 : Int32)) hx hb hown (hts _ w_267) dX4_removeOutliers_28 ?_
        exact k_iretM hC hr hlk hS dX4_removeOutliers_30 (ro_n ⟨zc4, zc14⟩ zc25 hXW)
    · refine lv_ldc (v := (-2000000001 : Int32)) hx hb hown (hts _ w_204) dX4_removeOutliers_17 ?_
      exact k_iretM hC hr hlk hS dX4_removeOutliers_19 (by first | exact ro_i (fun q => zc4 q.1) hXW | exact ro_i (fun q => zc14 q.2) hXW)
