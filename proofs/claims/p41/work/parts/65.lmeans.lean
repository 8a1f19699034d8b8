theorem ro_0 {f : Nat → Int32} {n cn ze : Nat} (h1 : ze ≤ 1) (h : s_mn f (nI ze) cn = 0) : s_roR f n (nI ze) (nI 50) cn = (-2000000002 : Int32) ∧ s_roF f n (nI ze) (nI 50) cn = f ∧ s_roN f n (nI ze) (nI 50) cn = n := by
  unfold s_roR s_roF s_roN
  rw [if_pos ⟨nI_rg (Nat.zero_le _) h1 (by decide), nI_rg (Nat.zero_le _) (by decide) (by decide)⟩, if_pos h, if_neg (fun q => q.2 h), if_neg (fun q => q.2 h)]
  exact ⟨rfl, rfl, rfl⟩
section MT
variable {f : Nat → Int32} {en : Int32} {k : Nat}
theorem mn_t (h : f (62 + 44 * k) = en) : s_mn f en (k + 1) = s_mn f en k + 1 := by rw [s_mn, if_pos h]
theorem mn_f (h : ¬ f (62 + 44 * k) = en) : s_mn f en (k + 1) = s_mn f en k := by rw [s_mn, if_neg h, Nat.add_zero]
theorem sA_t (h : f (62 + 44 * k) = en) : v_sA f en (k + 1) = v_sA f en k + (s_ar (s_pt f k) 20).toInt64 := by rw [v_sA, if_pos h]
theorem sA_f (h : ¬ f (62 + 44 * k) = en) : v_sA f en (k + 1) = v_sA f en k + lN 0 := by rw [v_sA, if_neg h]
theorem spw_t (h : f (62 + 44 * k) = en) : s_sp f en (k + 1) = s_sp f en k + s_pc f k := by rw [s_sp, if_pos h]
theorem spw_f (h : ¬ f (62 + 44 * k) = en) : s_sp f en (k + 1) = s_sp f en k + lN 0 := by rw [s_sp, if_neg h]
end MT
theorem L_L_X4_removeOutliers : LnkV RL 134 yX4_removeOutliers cX4_removeOutliers 6 (some .int) 2 := ⟨w_601, w_602, w_603, w_25, w_604, ⟨by decide +kernel, by decide +kernel⟩, by decide +kernel⟩
set_option maxHeartbeats 4000000 in
set_option maxRecDepth 100000 in
theorem c_L_areMeans (l : Launch) (g : kG) (x : Nat → Nat) (a : Nat → Nat) (M : Nat → Prop) (f : Nat → Int32) (n : Nat) (cn : Nat) (hQ : QF f cn) : MI l yL_areMeans cL_areMeans 11 (some .boolean) (rr 6 139) [.ref (x 0)] ((XW g x a M f n)) g 0 0 (MF x M) (fun r H1 => r = nI 1 ∧ XW g x a M f n H1) := by
  refine kOf (by decide) (Nat.le_of_ble_eq_true rfl) (fun p e s m below meth c ls hC hr hlk hin hK hP hl => ?_)
  have hx := hC.1
  have hb := hC.2.1
  have hml := hC.2.2.1
  have hown := hC.2.2.2.1
  have hts := hC.2.2.2.2
  have hl : lv_has ls 11 [(0, .ref (x 0))] := hl
  have hX := hP
  have hcn := hQ.1
  have hc := hQ.2.1
  have hS : va_S (MF x M) s.heap s.heap [] := va_S.rf
  refine lv_iconst (v := nI 0) hx hb dL_areMeans_0 (by decide) ?_
  refine lv_istore_n (lv' := [(1, .int (nI 0)), (0, .ref (x 0))]) hx hb dL_areMeans_1 rfl hl (by decide) rfl (fun ls hl => ?_)
  have key_1 : ∀ (k_2 : Nat) (ze : Nat) (H5 : Heap) (locs5 : List Loc) (hX5 : XW g x a M f n H5) (hS5 : va_S (MF x M) s.heap H5 locs5) (hze : ze ≤ 2) (hk_k_2 : 2 - ze < k_2) (ls : Array Slot) (hl : lv_has ls 11 [(1, .int (nI ze)), (0, .ref (x 0))]), W p l e (rr 6 139) s m [.ref (x 0)].toArray below meth c H5 locs5 0 0 (MQ below (qI (MF x M) (fun r H1 => r = nI 1 ∧ XW g x a M f n H1)) [.ref (x 0)].toArray s 0 0 (MF x M)) (F0 m 2 ls ([])) := by
    intro k_2
    induction k_2 with
    | zero => intro ze H5 locs5 hX5 hS5 hze hk_k_2 ls hl; exact absurd hk_k_2 (Nat.not_lt_zero _)
    | succ k_2 ih_3 =>
      intro ze H5 locs5 hX5 hS5 hze hk_k_2 ls hl
      refine lv_iload_n hx hb dL_areMeans_2 rfl (lvG hl rfl) ?_
      refine lv_iconst (v := nI 2) hx hb dL_areMeans_3 (by decide) ?_
      refine n_icmp_ge (tgt := 227) hC dL_areMeans_4 (by omega) (by omega) (by decide) (fun zc4 => ?_) (fun zc4 => ?_)
      · have hm0 := s_mn_le f (nI 0) cn
        have hm1 := s_mn_le f (nI 1) cn
        refine lv_aload_n hx hb dL_areMeans_227 rfl (lvG hl rfl) ?_
        refine lv_iconst (v := nI 0) hx hb dL_areMeans_228 (by decide) ?_
        obtain ⟨rq_4, hB_5, hT_6, hbk_7⟩ := hX5.q hc hQ.1
        refine k_callPI (k_goV (rest := []) hC hK (w_q_cardsOf l g x a n f cn rq_4 hQ (nI 0)) L_L_X4_cardsOf (⟨⟨Nat.le_of_ble_eq_true rfl, Nat.le_of_ble_eq_true rfl⟩, ⟨rfl, rfl⟩, ⟨Nat.le_of_ble_eq_true rfl, Nat.le_of_ble_eq_true rfl⟩⟩) (hX5.recv hK) (hB_5) rfl hl.1 rfl (Nat.le_of_ble_eq_true rfl) dL_areMeans_229) ?_
        rw [e_cof (by decide)]
        refine lv_aload_n hx hb dL_areMeans_232 rfl (lvG hl rfl) ?_
        refine lv_iconst (v := nI 1) hx hb dL_areMeans_233 (by decide) ?_
        refine k_callPI (k_goV (rest := [.int (nI (s_mn f (nI 0) cn))]) hC hK (w_q_cardsOf l g x a n f cn rq_4 hQ (nI 1)) L_L_X4_cardsOf (⟨⟨Nat.le_of_ble_eq_true rfl, Nat.le_of_ble_eq_true rfl⟩, ⟨rfl, rfl⟩, ⟨Nat.le_of_ble_eq_true rfl, Nat.le_of_ble_eq_true rfl⟩⟩) (hX5.recv hK) (hB_5) rfl hl.1 rfl (Nat.le_of_ble_eq_true rfl) dL_areMeans_234) ?_
        rw [e_cof (by decide)]
        refine n_iadd hC dL_areMeans_237 ?_
        refine lv_aload_n hx hb dL_areMeans_238 rfl (lvG hl rfl) ?_
        refine k_callPI (k_goV (rest := [.int (nI (s_mn f (nI 0) cn + (s_mn f (nI 1) cn)))]) hC hK (w_q_cardCount l g x a n f cn rq_4 hQ) L_L_X4_cardCount (⟨⟨Nat.le_of_ble_eq_true rfl, Nat.le_of_ble_eq_true rfl⟩, ⟨rfl, rfl⟩, ⟨Nat.le_of_ble_eq_true rfl, Nat.le_of_ble_eq_true rfl⟩⟩) (hX5.recv hK) (hB_5) rfl hl.1 rfl (Nat.le_of_ble_eq_true rfl) dL_areMeans_239) ?_
        refine n_icmp_ne (tgt := 249) hC dL_areMeans_242 (by omega) (by omega) (by decide) (fun zc242 => ?_) (fun zc242 => ?_)
        · exact absurd (mn_sum hQ cn (Nat.le_refl _)) zc242
        · refine lv_iconst (v := nI 1) hx hb dL_areMeans_245 (by decide) ?_
          refine lv_goto (tgt := 250) hx hb dL_areMeans_246 (by decide) ?_
          exact k_zretM hC hr hlk hS5 dL_areMeans_250 k_nar1 (⟨rfl, hX5⟩)
      · refine lv_iconst (v := nI 0) hx hb dL_areMeans_7 (by decide) ?_
        refine lv_istore_n (lv' := [(2, .int (nI 0)), (1, .int (nI ze)), (0, .ref (x 0))]) hx hb dL_areMeans_8 rfl hl (by decide) rfl (fun ls hl => ?_)
        refine lv_lconst (v := lN 0) hx hb dL_areMeans_9 (by decide) ?_
        refine lv_lstore_n (lv' := [(3, .long (lN 0)), (2, .int (nI 0)), (1, .int (nI ze)), (0, .ref (x 0))]) hx hb dL_areMeans_10 rfl hl (by decide) rfl (fun ls hl => ?_)
        refine lv_lconst (v := lN 0) hx hb dL_areMeans_11 (by decide) ?_
        refine lv_lstore (lv' := [(5, .long (lN 0)), (3, .long (lN 0)), (2, .int (nI 0)), (1, .int (nI ze)), (0, .ref (x 0))]) hx hb dL_areMeans_12 hl (by decide) rfl (fun ls hl => ?_)
        refine lv_iconst (v := nI 0) hx hb dL_areMeans_14 (by decide) ?_
        refine lv_istore (lv' := [(7, .int (nI 0)), (5, .long (lN 0)), (3, .long (lN 0)), (2, .int (nI 0)), (1, .int (nI ze)), (0, .ref (x 0))]) hx hb dL_areMeans_15 hl (by decide) rfl (fun ls hl => ?_)
        have key_8 : ∀ (k_9 : Nat) (zi : Nat)  (hzi : zi ≤ cn) (hk_k_9 : cn - zi < k_9) (ls : Array Slot) (hl : lv_has ls 11 [(7, .int (nI zi)), (5, .long (s_sp f (nI ze) zi)), (3, .long (v_sA f (nI ze) zi)), (2, .int (nI (s_mn f (nI ze) zi))), (1, .int (nI ze)), (0, .ref (x 0))]), W p l e (rr 6 139) s m [.ref (x 0)].toArray below meth c H5 locs5 0 0 (MQ below (qI (MF x M) (fun r H1 => r = nI 1 ∧ XW g x a M f n H1)) [.ref (x 0)].toArray s 0 0 (MF x M)) (F0 m 17 ls ([])) := by
          intro k_9
          induction k_9 with
          | zero => intro zi hzi hk_k_9 ls hl; exact absurd hk_k_9 (Nat.not_lt_zero _)
          | succ k_9 ih_10 =>
            intro zi hzi hk_k_9 ls hl
            have hmn := s_mn_le f (nI ze) cn
            refine lv_iload hx hb dL_areMeans_17 (lvG hl rfl) ?_
            refine lv_aload_n hx hb dL_areMeans_19 rfl (lvG hl rfl) ?_
            obtain ⟨rq_11, hB_12, hT_13, hbk_14⟩ := hX5.q hc hQ.1
            refine k_callPI (k_goV (rest := [.int (nI zi)]) hC hK (w_q_cardCount l g x a n f cn rq_11 hQ) L_L_X4_cardCount (⟨⟨Nat.le_of_ble_eq_true rfl, Nat.le_of_ble_eq_true rfl⟩, ⟨rfl, rfl⟩, ⟨Nat.le_of_ble_eq_true rfl, Nat.le_of_ble_eq_true rfl⟩⟩) (hX5.recv hK) (hB_12) rfl hl.1 rfl (Nat.le_of_ble_eq_true rfl) dL_areMeans_20) ?_
            refine n_icmp_ge (tgt := 101) hC dL_areMeans_23 (by omega) (by omega) (by decide) (fun zc23 => ?_) (fun zc23 => ?_)
            · have hl : lv_has ls 11 [(7, .int (nI zi)), (5, .long (s_sp f (nI ze) cn)), (3, .long (v_sA f (nI ze) cn)), (2, .int (nI (s_mn f (nI ze) cn))), (1, .int (nI ze)), (0, .ref (x 0))] := lv_eq hl (by rw [show zi = cn by omega])
              refine lv_aload_n hx hb dL_areMeans_101 rfl (lvG hl rfl) ?_
              refine lv_iload_n hx hb dL_areMeans_102 rfl (lvG hl rfl) ?_
              refine k_callPI (k_goV (rest := []) hC hK (w_q_cardsOf l g x a n f cn rq_11 hQ (nI ze)) L_L_X4_cardsOf (⟨⟨Nat.le_of_ble_eq_true rfl, Nat.le_of_ble_eq_true rfl⟩, ⟨rfl, rfl⟩, ⟨Nat.le_of_ble_eq_true rfl, Nat.le_of_ble_eq_true rfl⟩⟩) (hX5.recv hK) (hB_12) rfl hl.1 rfl (Nat.le_of_ble_eq_true rfl) dL_areMeans_103) ?_
              rw [e_cof (by omega)]
              refine lv_iload_n hx hb dL_areMeans_106 rfl (lvG hl rfl) ?_
              refine n_icmp_ne (tgt := 148) hC dL_areMeans_107 (by omega) (by omega) (by decide) (fun zc107 => ?_) (fun zc107 => ?_)
              · first | exact absurd rfl zc107 | exact absurd rfl zc121 | exact absurd rfl zc132 | exact absurd rfl zc145
              · have jc_15 : ∀ (Hu_16 : Heap) (locsu_16 : List Loc) (hXu_16 : XW g x a M f n Hu_16) (hSu_16 : va_S (MF x M) s.heap Hu_16 locsu_16) (ls : Array Slot) (hl : lv_has ls 11 [(7, .int (nI zi)), (5, .long (s_sp f (nI ze) cn)), (3, .long (v_sA f (nI ze) cn)), (2, .int (nI (s_mn f (nI ze) cn))), (1, .int (nI ze)), (0, .ref (x 0))]), W p l e (rr 6 139) s m [.ref (x 0)].toArray below meth c Hu_16 locsu_16 0 0 (MQ below (qI (MF x M) (fun r H1 => r = nI 1 ∧ XW g x a M f n H1)) [.ref (x 0)].toArray s 0 0 (MF x M)) (F0 m 150 ls []) := by
                  intro Hu_16 locsu_16 hXu_16 hSu_16 ls hl
                  refine lv_iload_n hx hb dL_areMeans_150 rfl (lvG hl rfl) ?_
                  refine n_if_le (tgt := 221) hC dL_areMeans_151 (by omega) (by decide) (fun zc151 => ?_) (fun zc151 => ?_)
                  · refine n_iinc (lv' := [(1, .int (nI (ze + 1))), (7, .int (nI zi)), (5, .long (s_sp f (nI ze) cn)), (3, .long (v_sA f (nI ze) cn)), (2, .int (nI (s_mn f (nI ze) cn))), (0, .ref (x 0))]) hC dL_areMeans_221 hl rfl (by decide) rfl (fun ls hl => ?_)
                    refine lv_goto (tgt := 2) hx hb dL_areMeans_224 (by decide) ?_
                    exact ih_3 (ze + 1) _ _ hXu_16 hSu_16 (by first | omega | assumption | rfl) (by omega) ls (lv_sub hl [0, 5] rfl)
                  · refine lv_aload_n hx hb dL_areMeans_154 rfl (lvG hl rfl) ?_
                    refine lv_iload_n hx hb dL_areMeans_155 rfl (lvG hl rfl) ?_
                    obtain ⟨rq_17, hB_18, hT_19, hbk_20⟩ := hXu_16.q hc hQ.1
                    refine k_callMI0 (k_goV (rest := []) hC hK (w_q_meanArea l g x a n f cn rq_17 hQ (nI ze)) L_L_X4_meanArea (⟨⟨Nat.le_of_ble_eq_true rfl, Nat.le_of_ble_eq_true rfl⟩, ⟨rfl, rfl⟩, ⟨Nat.le_of_ble_eq_true rfl, Nat.le_of_ble_eq_true rfl⟩⟩) (hXu_16.recv hK) (⟨hB_18, hT_19⟩) rfl hl.1 rfl (Nat.le_of_ble_eq_true rfl) dL_areMeans_156) hSu_16 ((fun _ c => Or.inr c)) (fun r_ H_21 locs_22 hq_23 hz_ hk_25 hS_24 => ?_)
                    obtain ⟨e_26, hT_27⟩ := hq_23
                    rw [e_mar (by omega), if_neg (by omega)] at e_26
                    subst e_26
                    have hX_28 := hbk_20 H_21 hk_25 hT_27
                    obtain ⟨rq_29, hB_30, hT_31, hbk_32⟩ := hX_28.q hc hQ.1
                    refine lv_i2l (v := (s_ar (s_mv f (nI ze) cn) 20).toInt64) hx hb dL_areMeans_159 rfl ?_
                    refine lv_iload_n hx hb dL_areMeans_160 rfl (lvG hl rfl) ?_
                    refine lv_i2l (v := (nI (s_mn f (nI ze) cn)).toInt64) hx hb dL_areMeans_161 rfl ?_
                    refine lv_lmul hx hb dL_areMeans_162 ?_
                    refine lv_lload_n hx hb dL_areMeans_163 rfl (lvG hl rfl) ?_
                    refine lv_lsub hx hb dL_areMeans_164 ?_
                    refine lv_lstore (lv' := [(7, .long ((((s_ar (s_mv f (nI ze) cn) 20).toInt64) * ((nI (s_mn f (nI ze) cn)).toInt64)) - (v_sA f (nI ze) cn))), (5, .long (s_sp f (nI ze) cn)), (3, .long (v_sA f (nI ze) cn)), (2, .int (nI (s_mn f (nI ze) cn))), (1, .int (nI ze)), (0, .ref (x 0))]) hx hb dL_areMeans_165 hl (by decide) rfl (fun ls hl => ?_)
                    refine lv_lload hx hb dL_areMeans_167 (lvG hl rfl) ?_
                    refine lv_aload_n hx hb dL_areMeans_169 rfl (lvG hl rfl) ?_
                    refine lv_iload_n hx hb dL_areMeans_170 rfl (lvG hl rfl) ?_
                    refine k_callPL (k_goV (rest := [.long (s_sp f (nI ze) cn)]) hC hK (w_q_meanPower l g x a n f cn rq_29 hQ (nI ze)) L_L_X4_meanPower (⟨⟨Nat.le_of_ble_eq_true rfl, Nat.le_of_ble_eq_true rfl⟩, ⟨rfl, rfl⟩, ⟨Nat.le_of_ble_eq_true rfl, Nat.le_of_ble_eq_true rfl⟩⟩) (hX_28.recv hK) (hB_30) rfl hl.1 rfl (Nat.le_of_ble_eq_true rfl) dL_areMeans_171) ?_
                    rw [e_mpw (by omega), if_neg (by omega)]
                    refine lv_iload_n hx hb dL_areMeans_174 rfl (lvG hl rfl) ?_
                    refine lv_i2l (v := (nI (s_mn f (nI ze) cn)).toInt64) hx hb dL_areMeans_175 rfl ?_
                    refine lv_lmul hx hb dL_areMeans_176 ?_
                    refine lv_lsub hx hb dL_areMeans_177 ?_
                    refine lv_lstore (lv' := [(9, .long ((s_sp f (nI ze) cn) - ((s_mp f (nI ze) cn) * ((nI (s_mn f (nI ze) cn)).toInt64)))), (7, .long ((((s_ar (s_mv f (nI ze) cn) 20).toInt64) * ((nI (s_mn f (nI ze) cn)).toInt64)) - (v_sA f (nI ze) cn))), (5, .long (s_sp f (nI ze) cn)), (3, .long (v_sA f (nI ze) cn)), (2, .int (nI (s_mn f (nI ze) cn))), (1, .int (nI ze)), (0, .ref (x 0))]) hx hb dL_areMeans_178 hl (by decide) rfl (fun ls hl => ?_)
                    refine lv_lload hx hb dL_areMeans_180 (lvG hl rfl) ?_
                    refine lv_ldc2 (v := (-40 : Int64)) hx hb hown (hts _ w_622) dL_areMeans_182 ?_
                    refine lv_iload_n hx hb dL_areMeans_185 rfl (lvG hl rfl) ?_
                    refine lv_i2l (v := (nI (s_mn f (nI ze) cn)).toInt64) hx hb dL_areMeans_186 rfl ?_
                    refine lv_lmul hx hb dL_areMeans_187 ?_
                    refine j_llt (tgt := 219) hC dL_areMeans_188 dL_areMeans_189 (by decide) (fun zc188 => ?_) (fun zc188 => ?_)
                    · first | exact absurd zc188 (off_ok hQ (by omega)).1 | exact absurd zc200 (off_ok hQ (by omega)).2 | exact absurd zc207 (rest_ok hQ (by omega)).1 | exact absurd (rest_ok hQ (by omega)).2 zc215
                    · refine lv_lload hx hb dL_areMeans_192 (lvG hl rfl) ?_
                      refine lv_ldc2 (v := (40 : Int64)) hx hb hown (hts _ w_623) dL_areMeans_194 ?_
                      refine lv_iload_n hx hb dL_areMeans_197 rfl (lvG hl rfl) ?_
                      refine lv_i2l (v := (nI (s_mn f (nI ze) cn)).toInt64) hx hb dL_areMeans_198 rfl ?_
                      refine lv_lmul hx hb dL_areMeans_199 ?_
                      refine j_lgt (tgt := 219) hC dL_areMeans_200 dL_areMeans_201 (by decide) (fun zc200 => ?_) (fun zc200 => ?_)
                      · first | exact absurd zc188 (off_ok hQ (by omega)).1 | exact absurd zc200 (off_ok hQ (by omega)).2 | exact absurd zc207 (rest_ok hQ (by omega)).1 | exact absurd (rest_ok hQ (by omega)).2 zc215
                      · refine lv_lload hx hb dL_areMeans_204 (lvG hl rfl) ?_
                        refine lv_lconst (v := lN 0) hx hb dL_areMeans_206 (by decide) ?_
                        refine j_llt (tgt := 219) hC dL_areMeans_207 dL_areMeans_208 (by decide) (fun zc207 => ?_) (fun zc207 => ?_)
                        · first | exact absurd zc188 (off_ok hQ (by omega)).1 | exact absurd zc200 (off_ok hQ (by omega)).2 | exact absurd zc207 (rest_ok hQ (by omega)).1 | exact absurd (rest_ok hQ (by omega)).2 zc215
                        · refine lv_lload hx hb dL_areMeans_211 (lvG hl rfl) ?_
                          refine lv_iload_n hx hb dL_areMeans_213 rfl (lvG hl rfl) ?_
                          refine lv_i2l (v := (nI (s_mn f (nI ze) cn)).toInt64) hx hb dL_areMeans_214 rfl ?_
                          refine j_llt (tgt := 221) hC dL_areMeans_215 dL_areMeans_216 (by decide) (fun zc215 => ?_) (fun zc215 => ?_)
                          · refine n_iinc (lv' := [(1, .int (nI (ze + 1))), (9, .long ((s_sp f (nI ze) cn) - ((s_mp f (nI ze) cn) * ((nI (s_mn f (nI ze) cn)).toInt64)))), (7, .long ((((s_ar (s_mv f (nI ze) cn) 20).toInt64) * ((nI (s_mn f (nI ze) cn)).toInt64)) - (v_sA f (nI ze) cn))), (5, .long (s_sp f (nI ze) cn)), (3, .long (v_sA f (nI ze) cn)), (2, .int (nI (s_mn f (nI ze) cn))), (0, .ref (x 0))]) hC dL_areMeans_221 hl rfl (by decide) rfl (fun ls hl => ?_)
                            refine lv_goto (tgt := 2) hx hb dL_areMeans_224 (by decide) ?_
                            exact ih_3 (ze + 1) _ _ hX_28 hS_24 (by first | omega | assumption | rfl) (by omega) ls (lv_sub hl [0, 6] rfl)
                          · first | exact absurd zc188 (off_ok hQ (by omega)).1 | exact absurd zc200 (off_ok hQ (by omega)).2 | exact absurd zc207 (rest_ok hQ (by omega)).1 | exact absurd (rest_ok hQ (by omega)).2 zc215
                refine lv_iload_n hx hb dL_areMeans_110 rfl (lvG hl rfl) ?_
                refine n_if_ne (tgt := 150) hC dL_areMeans_111 (by omega) (by decide) (fun zc111 => ?_) (fun zc111 => ?_)
                · exact jc_15 _ _ hX5 hS5 ls (lv_sub hl [0, 1, 2, 3, 4, 5] rfl)
                · refine lv_aload_n hx hb dL_areMeans_114 rfl (lvG hl rfl) ?_
                  refine lv_iload_n hx hb dL_areMeans_115 rfl (lvG hl rfl) ?_
                  refine k_callMI0 (k_goV (rest := []) hC hK (w_q_meanArea l g x a n f cn rq_11 hQ (nI ze)) L_L_X4_meanArea (⟨⟨Nat.le_of_ble_eq_true rfl, Nat.le_of_ble_eq_true rfl⟩, ⟨rfl, rfl⟩, ⟨Nat.le_of_ble_eq_true rfl, Nat.le_of_ble_eq_true rfl⟩⟩) (hX5.recv hK) (⟨hB_12, hT_13⟩) rfl hl.1 rfl (Nat.le_of_ble_eq_true rfl) dL_areMeans_116) hS5 ((fun _ c => Or.inr c)) (fun r_ H_33 locs_34 hq_35 hz_ hk_37 hS_36 => ?_)
                  obtain ⟨e_38, hT_39⟩ := hq_35
                  rw [e_mar (by omega), if_pos zc111] at e_38
                  subst e_38
                  have hX_40 := hbk_14 H_33 hk_37 hT_39
                  obtain ⟨rq_41, hB_42, hT_43, hbk_44⟩ := hX_40.q hc hQ.1
                  refine lv_ldc (v := (-2000000004 : Int32)) hx hb hown (hts _ w_619) dL_areMeans_119 ?_
                  refine lv_icmp_ne (tgt := 148) hx hb dL_areMeans_121 (by decide) (fun zc121 => ?_) (fun zc121 => ?_)
                  · first | exact absurd rfl zc107 | exact absurd rfl zc121 | exact absurd rfl zc132 | exact absurd rfl zc145
                  · refine lv_aload_n hx hb dL_areMeans_124 rfl (lvG hl rfl) ?_
                    refine lv_iload_n hx hb dL_areMeans_125 rfl (lvG hl rfl) ?_
                    refine k_callPL (k_goV (rest := []) hC hK (w_q_meanPower l g x a n f cn rq_41 hQ (nI ze)) L_L_X4_meanPower (⟨⟨Nat.le_of_ble_eq_true rfl, Nat.le_of_ble_eq_true rfl⟩, ⟨rfl, rfl⟩, ⟨Nat.le_of_ble_eq_true rfl, Nat.le_of_ble_eq_true rfl⟩⟩) (hX_40.recv hK) (hB_42) rfl hl.1 rfl (Nat.le_of_ble_eq_true rfl) dL_areMeans_126) ?_
                    rw [e_mpw (by omega), if_pos zc111]
                    refine lv_ldc2 (v := (-2000000004 : Int64)) hx hb hown (hts _ w_620) dL_areMeans_129 ?_
                    refine j_lne (tgt := 148) hC dL_areMeans_132 dL_areMeans_133 (by decide) (fun zc132 => ?_) (fun zc132 => ?_)
                    · first | exact absurd rfl zc107 | exact absurd rfl zc121 | exact absurd rfl zc132 | exact absurd rfl zc145
                    · refine lv_aload_n hx hb dL_areMeans_136 rfl (lvG hl rfl) ?_
                      refine lv_iload_n hx hb dL_areMeans_137 rfl (lvG hl rfl) ?_
                      refine lv_bipush (v := nI 50) hx hb dL_areMeans_138 (by decide) ?_
                      refine k_callMI0 (k_goV (rest := []) hC hK (c_X4_removeOutliers l g x a M f n cn (by first | assumption | omega) (by first | assumption | omega) (nI ze) (nI 50)) L_L_X4_removeOutliers (⟨⟨Nat.le_of_ble_eq_true rfl, Nat.le_of_ble_eq_true rfl⟩, ⟨rfl, rfl⟩, ⟨Nat.le_of_ble_eq_true rfl, Nat.le_of_ble_eq_true rfl⟩⟩) (hX_40.recv hK) (hX_40) rfl hl.1 rfl (Nat.le_of_ble_eq_true rfl) dL_areMeans_140) hS_36 (fun _ c => c) (fun r_ H_45 locs_46 hq_47 hz_ hk_49 hS_48 => ?_)
                      obtain ⟨e_50, hX_51⟩ := hq_47
                      rw [(ro_0 (n := n) (by omega) zc111).1] at e_50
                      rw [(ro_0 (n := n) (by omega) zc111).2.1, (ro_0 (n := n) (by omega) zc111).2.2] at hX_51
                      subst e_50
                      refine lv_ldc (v := (-2000000002 : Int32)) hx hb hown (hts _ w_621) dL_areMeans_143 ?_
                      refine lv_icmp_eq (tgt := 150) hx hb dL_areMeans_145 (by decide) (fun zc145 => ?_) (fun zc145 => ?_)
                      · exact jc_15 _ _ hX_51 hS_48 ls (lv_sub hl [0, 1, 2, 3, 4, 5] rfl)
                      · first | exact absurd rfl zc107 | exact absurd rfl zc121 | exact absurd rfl zc132 | exact absurd rfl zc145
            · refine lv_aload_n hx hb dL_areMeans_26 rfl (lvG hl rfl) ?_
              refine lv_iload hx hb dL_areMeans_27 (lvG hl rfl) ?_
              refine k_callPI (k_goV (rest := []) hC hK (w_q_end l g x a n f cn rq_11 hQ (nI zi)) L_L_X4_end (⟨⟨Nat.le_of_ble_eq_true rfl, Nat.le_of_ble_eq_true rfl⟩, ⟨rfl, rfl⟩, ⟨Nat.le_of_ble_eq_true rfl, Nat.le_of_ble_eq_true rfl⟩⟩) (hX5.recv hK) (hB_12) rfl hl.1 rfl (Nat.le_of_ble_eq_true rfl) dL_areMeans_29) ?_
              rw [e_end hQ.2.1 hQ.1 (by omega)]
              refine lv_iload_n hx hb dL_areMeans_32 rfl (lvG hl rfl) ?_
              refine lv_icmp_ne (tgt := 40) hx hb dL_areMeans_33 (by decide) (fun zc33 => ?_) (fun zc33 => ?_)
              · refine lv_iconst (v := nI 0) hx hb dL_areMeans_40 (by decide) ?_
                refine lv_istore (lv' := [(8, .int (nI 0)), (7, .int (nI zi)), (5, .long (s_sp f (nI ze) zi)), (3, .long (v_sA f (nI ze) zi)), (2, .int (nI (s_mn f (nI ze) zi))), (1, .int (nI ze)), (0, .ref (x 0))]) hx hb dL_areMeans_41 hl (by decide) rfl (fun ls hl => ?_)
                refine lv_iload_n hx hb dL_areMeans_43 rfl (lvG hl rfl) ?_
                refine lv_iload hx hb dL_areMeans_44 (lvG hl rfl) ?_
                refine n_if_eq (tgt := 53) hC dL_areMeans_46 (by decide) (by decide) (fun _ => ?_) (fun c => absurd c (by decide))
                refine lv_iconst (v := nI 0) hx hb dL_areMeans_53 (by decide) ?_
                refine n_iadd hC dL_areMeans_54 ?_
                refine lv_istore_n (lv' := [(2, .int (nI (s_mn f (nI ze) zi + 0))), (8, .int (nI 0)), (7, .int (nI zi)), (5, .long (s_sp f (nI ze) zi)), (3, .long (v_sA f (nI ze) zi)), (1, .int (nI ze)), (0, .ref (x 0))]) hx hb dL_areMeans_55 rfl hl (by decide) rfl (fun ls hl => ?_)
                refine lv_lload_n hx hb dL_areMeans_56 rfl (lvG hl rfl) ?_
                refine lv_iload hx hb dL_areMeans_57 (lvG hl rfl) ?_
                refine n_if_eq (tgt := 72) hC dL_areMeans_59 (by decide) (by decide) (fun _ => ?_) (fun c => absurd c (by decide))
                refine lv_lconst (v := lN 0) hx hb dL_areMeans_72 (by decide) ?_
                refine lv_ladd hx hb dL_areMeans_73 ?_
                refine lv_lstore_n (lv' := [(3, .long ((v_sA f (nI ze) zi) + (lN 0))), (2, .int (nI (s_mn f (nI ze) zi + 0))), (8, .int (nI 0)), (7, .int (nI zi)), (5, .long (s_sp f (nI ze) zi)), (1, .int (nI ze)), (0, .ref (x 0))]) hx hb dL_areMeans_74 rfl hl (by decide) rfl (fun ls hl => ?_)
                refine lv_lload hx hb dL_areMeans_75 (lvG hl rfl) ?_
                refine lv_iload hx hb dL_areMeans_77 (lvG hl rfl) ?_
                refine n_if_eq (tgt := 91) hC dL_areMeans_79 (by decide) (by decide) (fun _ => ?_) (fun c => absurd c (by decide))
                refine lv_lconst (v := lN 0) hx hb dL_areMeans_91 (by decide) ?_
                refine lv_ladd hx hb dL_areMeans_92 ?_
                refine lv_lstore (lv' := [(5, .long ((s_sp f (nI ze) zi) + (lN 0))), (3, .long ((v_sA f (nI ze) zi) + (lN 0))), (2, .int (nI (s_mn f (nI ze) zi + 0))), (8, .int (nI 0)), (7, .int (nI zi)), (1, .int (nI ze)), (0, .ref (x 0))]) hx hb dL_areMeans_93 hl (by decide) rfl (fun ls hl => ?_)
                have hl : lv_has ls 11 [(5, .long (s_sp f (nI ze) (zi + 1))), (3, .long (v_sA f (nI ze) (zi + 1))), (2, .int (nI (s_mn f (nI ze) (zi + 1)))), (8, .int (nI 0)), (7, .int (nI zi)), (1, .int (nI ze)), (0, .ref (x 0))] := lv_eq hl (by first | (rw [mn_t zc33, sA_t zc33, spw_t zc33]; done) | (rw [mn_f zc33, sA_f zc33, spw_f zc33]; rfl))
                refine n_iinc (lv' := [(7, .int (nI (zi + 1))), (5, .long (s_sp f (nI ze) (zi + 1))), (3, .long (v_sA f (nI ze) (zi + 1))), (2, .int (nI (s_mn f (nI ze) (zi + 1)))), (8, .int (nI 0)), (1, .int (nI ze)), (0, .ref (x 0))]) hC dL_areMeans_95 hl rfl (by decide) rfl (fun ls hl => ?_)
                refine lv_goto (tgt := 17) hx hb dL_areMeans_98 (by decide) ?_
                exact ih_10 (zi + 1)  (by first | omega | assumption | rfl) (by omega) ls (lv_sub hl [0, 1, 2, 3, 5, 6] rfl)
              · refine lv_iconst (v := nI 1) hx hb dL_areMeans_36 (by decide) ?_
                refine lv_goto (tgt := 41) hx hb dL_areMeans_37 (by decide) ?_
                refine lv_istore (lv' := [(8, .int (nI 1)), (7, .int (nI zi)), (5, .long (s_sp f (nI ze) zi)), (3, .long (v_sA f (nI ze) zi)), (2, .int (nI (s_mn f (nI ze) zi))), (1, .int (nI ze)), (0, .ref (x 0))]) hx hb dL_areMeans_41 hl (by decide) rfl (fun ls hl => ?_)
                refine lv_iload_n hx hb dL_areMeans_43 rfl (lvG hl rfl) ?_
                refine lv_iload hx hb dL_areMeans_44 (lvG hl rfl) ?_
                refine n_if_eq (tgt := 53) hC dL_areMeans_46 (by decide) (by decide) (fun c => absurd c (by decide)) (fun _ => ?_)
                refine lv_iconst (v := nI 1) hx hb dL_areMeans_49 (by decide) ?_
                refine lv_goto (tgt := 54) hx hb dL_areMeans_50 (by decide) ?_
                refine n_iadd hC dL_areMeans_54 ?_
                refine lv_istore_n (lv' := [(2, .int (nI (s_mn f (nI ze) zi + 1))), (8, .int (nI 1)), (7, .int (nI zi)), (5, .long (s_sp f (nI ze) zi)), (3, .long (v_sA f (nI ze) zi)), (1, .int (nI ze)), (0, .ref (x 0))]) hx hb dL_areMeans_55 rfl hl (by decide) rfl (fun ls hl => ?_)
                refine lv_lload_n hx hb dL_areMeans_56 rfl (lvG hl rfl) ?_
                refine lv_iload hx hb dL_areMeans_57 (lvG hl rfl) ?_
                refine n_if_eq (tgt := 72) hC dL_areMeans_59 (by decide) (by decide) (fun c => absurd c (by decide)) (fun _ => ?_)
                refine lv_aload_n hx hb dL_areMeans_62 rfl (lvG hl rfl) ?_
                refine lv_iload hx hb dL_areMeans_63 (lvG hl rfl) ?_
                refine k_callPI (k_goV (rest := [.long (v_sA f (nI ze) zi)]) hC hK (w_q_area l g x a n f cn rq_11 hQ (nI zi)) L_L_X4_area (⟨⟨Nat.le_of_ble_eq_true rfl, Nat.le_of_ble_eq_true rfl⟩, ⟨rfl, rfl⟩, ⟨Nat.le_of_ble_eq_true rfl, Nat.le_of_ble_eq_true rfl⟩⟩) (hX5.recv hK) (hB_12) rfl hl.1 rfl (Nat.le_of_ble_eq_true rfl) dL_areMeans_65) ?_
                rw [e_are hQ.2.1 hQ.1 (by omega)]
                refine lv_i2l (v := (s_ar (s_pt f zi) 20).toInt64) hx hb dL_areMeans_68 rfl ?_
                refine lv_goto (tgt := 73) hx hb dL_areMeans_69 (by decide) ?_
                refine lv_ladd hx hb dL_areMeans_73 ?_
                refine lv_lstore_n (lv' := [(3, .long ((v_sA f (nI ze) zi) + ((s_ar (s_pt f zi) 20).toInt64))), (2, .int (nI (s_mn f (nI ze) zi + 1))), (8, .int (nI 1)), (7, .int (nI zi)), (5, .long (s_sp f (nI ze) zi)), (1, .int (nI ze)), (0, .ref (x 0))]) hx hb dL_areMeans_74 rfl hl (by decide) rfl (fun ls hl => ?_)
                refine lv_lload hx hb dL_areMeans_75 (lvG hl rfl) ?_
                refine lv_iload hx hb dL_areMeans_77 (lvG hl rfl) ?_
                refine n_if_eq (tgt := 91) hC dL_areMeans_79 (by decide) (by decide) (fun c => absurd c (by decide)) (fun _ => ?_)
                refine lv_aload_n hx hb dL_areMeans_82 rfl (lvG hl rfl) ?_
                refine lv_iload hx hb dL_areMeans_83 (lvG hl rfl) ?_
                refine k_callPL (k_goV (rest := [.long (s_sp f (nI ze) zi)]) hC hK (w_q_power l g x a n f cn rq_11 hQ (nI zi)) L_L_X4_power (⟨⟨Nat.le_of_ble_eq_true rfl, Nat.le_of_ble_eq_true rfl⟩, ⟨rfl, rfl⟩, ⟨Nat.le_of_ble_eq_true rfl, Nat.le_of_ble_eq_true rfl⟩⟩) (hX5.recv hK) (hB_12) rfl hl.1 rfl (Nat.le_of_ble_eq_true rfl) dL_areMeans_85) ?_
                rw [e_pow hQ.2.1 hQ.1 (by omega)]
                refine lv_goto (tgt := 92) hx hb dL_areMeans_88 (by decide) ?_
                refine lv_ladd hx hb dL_areMeans_92 ?_
                refine lv_lstore (lv' := [(5, .long ((s_sp f (nI ze) zi) + (s_pc f zi))), (3, .long ((v_sA f (nI ze) zi) + ((s_ar (s_pt f zi) 20).toInt64))), (2, .int (nI (s_mn f (nI ze) zi + 1))), (8, .int (nI 1)), (7, .int (nI zi)), (1, .int (nI ze)), (0, .ref (x 0))]) hx hb dL_areMeans_93 hl (by decide) rfl (fun ls hl => ?_)
                have hl : lv_has ls 11 [(5, .long (s_sp f (nI ze) (zi + 1))), (3, .long (v_sA f (nI ze) (zi + 1))), (2, .int (nI (s_mn f (nI ze) (zi + 1)))), (8, .int (nI 1)), (7, .int (nI zi)), (1, .int (nI ze)), (0, .ref (x 0))] := lv_eq hl (by first | (rw [mn_t zc33, sA_t zc33, spw_t zc33]; done) | (rw [mn_f zc33, sA_f zc33, spw_f zc33]; rfl))
                refine n_iinc (lv' := [(7, .int (nI (zi + 1))), (5, .long (s_sp f (nI ze) (zi + 1))), (3, .long (v_sA f (nI ze) (zi + 1))), (2, .int (nI (s_mn f (nI ze) (zi + 1)))), (8, .int (nI 1)), (1, .int (nI ze)), (0, .ref (x 0))]) hC dL_areMeans_95 hl rfl (by decide) rfl (fun ls hl => ?_)
                refine lv_goto (tgt := 17) hx hb dL_areMeans_98 (by decide) ?_
                exact ih_10 (zi + 1)  (by first | omega | assumption | rfl) (by omega) ls (lv_sub hl [0, 1, 2, 3, 5, 6] rfl)
        exact key_8 ((cn - 0) + 1) 0  (by first | rfl | omega | assumption) (Nat.lt_succ_self _) ls (lv_sub hl [0, 1, 2, 3, 4, 5] rfl)
  exact key_1 ((2 - 0) + 1) 0 _ _ hX hS (by first | rfl | omega | assumption) (Nat.lt_succ_self _) ls (lv_sub hl [0, 1] rfl)
