abbrev s_A (f : Nat → Int32) (j : Nat) : Int32 := s_ar (s_pt f j) 20
def s_le (f : Nat → Int32) (en : Int32) (j : Nat) : Nat → Nat
  | 0 => 0
  | w + 1 => s_le f en j w + (if f (62 + 44 * w) = en ∧ s_A f w < s_A f j then 1 else 0)
def s_sa (f : Nat → Int32) (en : Int32) (j : Nat) : Nat → Nat
  | 0 => 0
  | w + 1 => s_sa f en j w + (if f (62 + 44 * w) = en ∧ s_A f w = s_A f j then 1 else 0)
theorem s_le_le (f : Nat → Int32) (en : Int32) (j : Nat) : ∀ w, s_le f en j w ≤ w
  | 0 => Nat.le_refl _
  | w + 1 => by
    have h := s_le_le f en j w
    unfold s_le
    split <;> omega
theorem s_sa_le (f : Nat → Int32) (en : Int32) (j : Nat) : ∀ w, s_sa f en j w ≤ w
  | 0 => Nat.le_refl _
  | w + 1 => by
    have h := s_sa_le f en j w
    unfold s_sa
    split <;> omega
abbrev s_inm (f : Nat → Int32) (en : Int32) (pl cn j : Nat) : Prop := nI (s_le f en j cn) ≤ nI pl ∧ nI pl ≤ nI (s_le f en j cn + s_sa f en j cn) - nI 1
def s_md (f : Nat → Int32) (en : Int32) (pl cn : Nat) : Nat → Int32
  | 0 => nI 0
  | j + 1 => if f (62 + 44 * j) = en ∧ s_inm f en pl cn j then s_A f j else s_md f en pl cn j
def s_mdn (f : Nat → Int32) (en : Int32) (cn : Nat) : Int32 := s_md f en ((s_mn f en cn - 1) / 2) cn cn
set_option maxHeartbeats 4000000 in
set_option maxRecDepth 100000 in
theorem c_X5_median (l : Launch) (g : kG) (o : Nat) (q : Nat) (f : Nat → Int32) (n : Nat) (en : Int32) (cn : Nat) (hc : f 61 = nI cn) (hcn : cn ≤ 10) (hm : 0 < s_mn f en cn) : PI l yX5_median cX5_median 9 (some .int) (rr 2 45) [.ref o, .int (en)] ((RP g o q f n)) g (s_mdn f en cn) := by
  refine kOf (by decide) (Nat.le_of_ble_eq_true rfl) (fun p e s m below meth c ls hC hr hlk hin hK hP hl => ?_)
  have hx := hC.1
  have hb := hC.2.1
  have hml := hC.2.2.1
  have hown := hC.2.2.2.1
  have hts := hC.2.2.2.2
  have hl : lv_has ls 9 [(0, .ref o), (1, .int (en))] := hl
  have hmn := s_mn_le f en cn
  refine lv_aload_n hx hb dX5_median_0 rfl (lvG hl rfl) ?_
  refine lv_iload_n hx hb dX5_median_1 rfl (lvG hl rfl) ?_
  refine k_callPI (k_goV (rest := []) hC hK (c_X5_many l g o q f n en cn hc hcn) L_X5_X5_many (⟨⟨Nat.le_of_ble_eq_true rfl, Nat.le_of_ble_eq_true rfl⟩, ⟨rfl, rfl⟩, ⟨Nat.le_of_ble_eq_true rfl, Nat.le_of_ble_eq_true rfl⟩⟩) (hP.recv hK) (hP) rfl hl.1 rfl (Nat.le_of_ble_eq_true rfl) dX5_median_2) ?_
  refine lv_iconst (v := nI 1) hx hb dX5_median_5 (by decide) ?_
  refine n_isub hC dX5_median_6 (by omega) ?_
  refine lv_iconst (v := nI 2) hx hb dX5_median_7 (by decide) ?_
  refine n_idiv hC dX5_median_8 (by omega) (by omega) (by omega) ?_
  refine lv_istore_n (lv' := [(2, .int (nI (((s_mn f en cn) - 1) / 2))), (0, .ref o), (1, .int (en))]) hx hb dX5_median_9 rfl hl (by decide) rfl (fun ls hl => ?_)
  refine lv_iconst (v := nI 0) hx hb dX5_median_10 (by decide) ?_
  refine lv_istore_n (lv' := [(3, .int (nI 0)), (2, .int (nI (((s_mn f en cn) - 1) / 2))), (0, .ref o), (1, .int (en))]) hx hb dX5_median_11 rfl hl (by decide) rfl (fun ls hl => ?_)
  refine lv_iconst (v := nI 0) hx hb dX5_median_12 (by decide) ?_
  refine lv_istore (lv' := [(4, .int (nI 0)), (3, .int (nI 0)), (2, .int (nI (((s_mn f en cn) - 1) / 2))), (0, .ref o), (1, .int (en))]) hx hb dX5_median_13 hl (by decide) rfl (fun ls hl => ?_)
  have key_1 : ∀ (k_2 : Nat) (j : Nat) (fd : Int32)  (hj : j ≤ cn) (hfd : fd = s_md f en ((s_mn f en cn - 1) / 2) cn j) (hk_k_2 : cn - j < k_2) (ls : Array Slot) (hl : lv_has ls 9 [(4, .int (nI j)), (3, .int (fd)), (2, .int (nI (((s_mn f en cn) - 1) / 2))), (0, .ref o), (1, .int (en))]), W p l e (rr 2 45) s m [.ref o, .int (en)].toArray below meth c s.heap [] 0 0 (MQ below (vp_Si (fun r => r = s_mdn f en cn)) [.ref o, .int (en)].toArray s 0 0 (fun _ => False)) (F0 m 15 ls ([])) := by
    intro k_2
    induction k_2 with
    | zero => intro j fd hj hfd hk_k_2 ls hl; exact absurd hk_k_2 (Nat.not_lt_zero _)
    | succ k_2 ih_3 =>
      intro j fd hj hfd hk_k_2 ls hl
      refine lv_iload hx hb dX5_median_15 (lvG hl rfl) ?_
      refine lv_aload_n hx hb dX5_median_17 rfl (lvG hl rfl) ?_
      refine r_row hC hK hP dX5_median_18 ?_
      refine lv_bipush (v := nI 61) hx hb dX5_median_21 (by decide) ?_
      refine r_ald (k := 61) hC hK hP (by omega) dX5_median_23 ?_
      rw [hc]
      refine n_icmp_ge (tgt := 197) hC dX5_median_24 (by omega) (by omega) (by decide) (fun zc24 => ?_) (fun zc24 => ?_)
      · refine lv_iload_n hx hb dX5_median_197 rfl (lvG hl rfl) ?_
        exact k_iret hC hr hlk dX5_median_198 (by unfold s_mdn; rw [hfd, show j = cn by omega])
      · refine lv_iconst (v := nI 0) hx hb dX5_median_27 (by decide) ?_
        refine lv_istore (lv' := [(5, .int (nI 0)), (4, .int (nI j)), (3, .int (fd)), (2, .int (nI (((s_mn f en cn) - 1) / 2))), (0, .ref o), (1, .int (en))]) hx hb dX5_median_28 hl (by decide) rfl (fun ls hl => ?_)
        refine lv_iconst (v := nI 0) hx hb dX5_median_30 (by decide) ?_
        refine lv_istore (lv' := [(6, .int (nI 0)), (5, .int (nI 0)), (4, .int (nI j)), (3, .int (fd)), (2, .int (nI (((s_mn f en cn) - 1) / 2))), (0, .ref o), (1, .int (en))]) hx hb dX5_median_31 hl (by decide) rfl (fun ls hl => ?_)
        refine lv_iconst (v := nI 0) hx hb dX5_median_33 (by decide) ?_
        refine lv_istore (lv' := [(7, .int (nI 0)), (6, .int (nI 0)), (5, .int (nI 0)), (4, .int (nI j)), (3, .int (fd)), (2, .int (nI (((s_mn f en cn) - 1) / 2))), (0, .ref o), (1, .int (en))]) hx hb dX5_median_34 hl (by decide) rfl (fun ls hl => ?_)
        have key_4 : ∀ (k_5 : Nat) (w : Nat) (sm : Nat) (ls1 : Nat)  (hw : w ≤ cn) (hls : ls1 = s_le f en j w) (hsm : sm = s_sa f en j w) (hk_k_5 : cn - w < k_5) (ls : Array Slot) (hl : lv_has ls 9 [(7, .int (nI w)), (6, .int (nI sm)), (5, .int (nI ls1)), (4, .int (nI j)), (3, .int (fd)), (2, .int (nI (((s_mn f en cn) - 1) / 2))), (0, .ref o), (1, .int (en))]), W p l e (rr 2 45) s m [.ref o, .int (en)].toArray below meth c s.heap [] 0 0 (MQ below (vp_Si (fun r => r = s_mdn f en cn)) [.ref o, .int (en)].toArray s 0 0 (fun _ => False)) (F0 m 36 ls ([])) := by
          intro k_5
          induction k_5 with
          | zero => intro w sm ls1 hw hls hsm hk_k_5 ls hl; exact absurd hk_k_5 (Nat.not_lt_zero _)
          | succ k_5 ih_6 =>
            intro w sm ls1 hw hls hsm hk_k_5 ls hl
            have hb1 : ls1 ≤ w := hls ▸ s_le_le f en j w
            have hb2 : sm ≤ w := hsm ▸ s_sa_le f en j w
            refine lv_iload hx hb dX5_median_36 (lvG hl rfl) ?_
            refine lv_aload_n hx hb dX5_median_38 rfl (lvG hl rfl) ?_
            refine r_row hC hK hP dX5_median_39 ?_
            refine lv_bipush (v := nI 61) hx hb dX5_median_42 (by decide) ?_
            refine r_ald (k := 61) hC hK hP (by omega) dX5_median_44 ?_
            rw [hc]
            refine n_icmp_ge (tgt := 147) hC dX5_median_45 (by omega) (by omega) (by decide) (fun zc45 => ?_) (fun zc45 => ?_)
            · refine lv_aload_n hx hb dX5_median_147 rfl (lvG hl rfl) ?_
              refine r_row hC hK hP dX5_median_148 ?_
              refine lv_iload hx hb dX5_median_151 (lvG hl rfl) ?_
              refine k_callPI (k_goS (rest := [.ref q]) hC hK (c_X5_endAt l g j) L_X5_X5_endAt (⟨⟨Nat.le_of_ble_eq_true rfl, Nat.le_of_ble_eq_true rfl⟩, ⟨rfl, rfl⟩, ⟨Nat.le_of_ble_eq_true rfl, Nat.le_of_ble_eq_true rfl⟩⟩) (trivial) rfl hl.1 rfl (Nat.le_of_ble_eq_true rfl) dX5_median_153) ?_
              refine r_ald (k := 62 + 44 * j) hC hK hP (by omega) dX5_median_156 ?_
              refine lv_iload_n hx hb dX5_median_157 rfl (lvG hl rfl) ?_
              refine lv_icmp_ne (tgt := 189) hx hb dX5_median_158 (by decide) (fun zc158 => ?_) (fun zc158 => ?_)
              · refine lv_iload_n hx hb dX5_median_189 rfl (lvG hl rfl) ?_
                refine lv_istore_n (lv' := [(3, .int (fd)), (7, .int (nI w)), (6, .int (nI sm)), (5, .int (nI ls1)), (4, .int (nI j)), (2, .int (nI (((s_mn f en cn) - 1) / 2))), (0, .ref o), (1, .int (en))]) hx hb dX5_median_190 rfl hl (by decide) rfl (fun ls hl => ?_)
                refine n_iinc (lv' := [(4, .int (nI (j + 1))), (3, .int (fd)), (7, .int (nI w)), (6, .int (nI sm)), (5, .int (nI ls1)), (2, .int (nI (((s_mn f en cn) - 1) / 2))), (0, .ref o), (1, .int (en))]) hC dX5_median_191 hl rfl (by decide) rfl (fun ls hl => ?_)
                refine lv_goto (tgt := 15) hx hb dX5_median_194 (by decide) ?_
                exact ih_3 (j + 1) fd  (by first | omega | assumption | rfl) (by unfold s_md; first | (rw [if_neg (fun q => zc158 q.1)]; exact hfd) | (rw [hls, hsm, show w = cn by omega] at zc174; first | (rw [if_pos ⟨zc158, zc174⟩]; done) | (rw [if_neg (fun q => zc174 q.2)]; exact hfd))) (by omega) ls (lv_sub hl [0, 1, 5, 6, 7] rfl)
              · refine lv_iload_n hx hb dX5_median_161 rfl (lvG hl rfl) ?_
                refine lv_iload hx hb dX5_median_162 (lvG hl rfl) ?_
                refine lv_iload hx hb dX5_median_164 (lvG hl rfl) ?_
                refine lv_iload hx hb dX5_median_166 (lvG hl rfl) ?_
                refine n_iadd hC dX5_median_168 ?_
                refine lv_iconst (v := nI 1) hx hb dX5_median_169 (by decide) ?_
                refine lv_isub hx hb dX5_median_170 ?_
                refine k_callPI (k_goS (rest := []) hC hK (c_X5_in l g (nI (((s_mn f en cn) - 1) / 2)) (nI ls1) ((nI (ls1 + sm)) - (nI 1))) L_X5_X5_in (⟨⟨Nat.le_of_ble_eq_true rfl, Nat.le_of_ble_eq_true rfl⟩, ⟨rfl, rfl⟩, ⟨Nat.le_of_ble_eq_true rfl, Nat.le_of_ble_eq_true rfl⟩⟩) (trivial) rfl hl.1 rfl (Nat.le_of_ble_eq_true rfl) dX5_median_171) ?_
                refine b_ifeq (tgt := 189) hC dX5_median_174 (by decide) (fun zc174 => ?_) (fun zc174 => ?_)
                · refine lv_iload_n hx hb dX5_median_189 rfl (lvG hl rfl) ?_
                  refine lv_istore_n (lv' := [(3, .int (fd)), (7, .int (nI w)), (6, .int (nI sm)), (5, .int (nI ls1)), (4, .int (nI j)), (2, .int (nI (((s_mn f en cn) - 1) / 2))), (0, .ref o), (1, .int (en))]) hx hb dX5_median_190 rfl hl (by decide) rfl (fun ls hl => ?_)
                  refine n_iinc (lv' := [(4, .int (nI (j + 1))), (3, .int (fd)), (7, .int (nI w)), (6, .int (nI sm)), (5, .int (nI ls1)), (2, .int (nI (((s_mn f en cn) - 1) / 2))), (0, .ref o), (1, .int (en))]) hC dX5_median_191 hl rfl (by decide) rfl (fun ls hl => ?_)
                  refine lv_goto (tgt := 15) hx hb dX5_median_194 (by decide) ?_
                  exact ih_3 (j + 1) fd  (by first | omega | assumption | rfl) (by unfold s_md; first | (rw [if_neg (fun q => zc158 q.1)]; exact hfd) | (rw [hls, hsm, show w = cn by omega] at zc174; first | (rw [if_pos ⟨zc158, zc174⟩]; done) | (rw [if_neg (fun q => zc174 q.2)]; exact hfd))) (by omega) ls (lv_sub hl [0, 1, 5, 6, 7] rfl)
                · refine lv_aload_n hx hb dX5_median_177 rfl (lvG hl rfl) ?_
                  refine lv_iload hx hb dX5_median_178 (lvG hl rfl) ?_
                  refine k_callPI (k_goS (rest := [.ref o]) hC hK (c_X5_at l g j) L_X5_X5_at (⟨⟨Nat.le_of_ble_eq_true rfl, Nat.le_of_ble_eq_true rfl⟩, ⟨rfl, rfl⟩, ⟨Nat.le_of_ble_eq_true rfl, Nat.le_of_ble_eq_true rfl⟩⟩) (trivial) rfl hl.1 rfl (Nat.le_of_ble_eq_true rfl) dX5_median_180) ?_
                  refine k_callPI (k_goV (rest := []) hC hK (c_X5_areaAt l g o q f n (62 + 44 * j + 2) (by first | assumption | omega)) L_X5_X5_areaAt (⟨⟨Nat.le_of_ble_eq_true rfl, Nat.le_of_ble_eq_true rfl⟩, ⟨rfl, rfl⟩, ⟨Nat.le_of_ble_eq_true rfl, Nat.le_of_ble_eq_true rfl⟩⟩) (hP.recv hK) (hP) rfl hl.1 rfl (Nat.le_of_ble_eq_true rfl) dX5_median_183) ?_
                  refine lv_goto (tgt := 190) hx hb dX5_median_186 (by decide) ?_
                  refine lv_istore_n (lv' := [(3, .int (s_ar (fun k => f ((62 + 44 * j + 2) + k)) 20)), (7, .int (nI w)), (6, .int (nI sm)), (5, .int (nI ls1)), (4, .int (nI j)), (2, .int (nI (((s_mn f en cn) - 1) / 2))), (0, .ref o), (1, .int (en))]) hx hb dX5_median_190 rfl hl (by decide) rfl (fun ls hl => ?_)
                  refine n_iinc (lv' := [(4, .int (nI (j + 1))), (3, .int (s_ar (fun k => f ((62 + 44 * j + 2) + k)) 20)), (7, .int (nI w)), (6, .int (nI sm)), (5, .int (nI ls1)), (2, .int (nI (((s_mn f en cn) - 1) / 2))), (0, .ref o), (1, .int (en))]) hC dX5_median_191 hl rfl (by decide) rfl (fun ls hl => ?_)
                  refine lv_goto (tgt := 15) hx hb dX5_median_194 (by decide) ?_
                  exact ih_3 (j + 1) (s_ar (fun k => f ((62 + 44 * j + 2) + k)) 20)  (by first | omega | assumption | rfl) (by unfold s_md; first | (rw [if_neg (fun q => zc158 q.1)]; exact hfd) | (rw [hls, hsm, show w = cn by omega] at zc174; first | (rw [if_pos ⟨zc158, zc174⟩]; done) | (rw [if_neg (fun q => zc174 q.2)]; exact hfd))) (by omega) ls (lv_sub hl [0, 1, 5, 6, 7] rfl)
            · refine lv_aload_n hx hb dX5_median_48 rfl (lvG hl rfl) ?_
              refine r_row hC hK hP dX5_median_49 ?_
              refine lv_iload hx hb dX5_median_52 (lvG hl rfl) ?_
              refine k_callPI (k_goS (rest := [.ref q]) hC hK (c_X5_endAt l g w) L_X5_X5_endAt (⟨⟨Nat.le_of_ble_eq_true rfl, Nat.le_of_ble_eq_true rfl⟩, ⟨rfl, rfl⟩, ⟨Nat.le_of_ble_eq_true rfl, Nat.le_of_ble_eq_true rfl⟩⟩) (trivial) rfl hl.1 rfl (Nat.le_of_ble_eq_true rfl) dX5_median_54) ?_
              refine r_ald (k := 62 + 44 * w) hC hK hP (by omega) dX5_median_57 ?_
              refine lv_iload_n hx hb dX5_median_58 rfl (lvG hl rfl) ?_
              refine lv_icmp_ne (tgt := 66) hx hb dX5_median_59 (by decide) (fun zc59 => ?_) (fun zc59 => ?_)
              · refine lv_iconst (v := nI 0) hx hb dX5_median_66 (by decide) ?_
                refine lv_istore (lv' := [(8, .int (nI 0)), (7, .int (nI w)), (6, .int (nI sm)), (5, .int (nI ls1)), (4, .int (nI j)), (3, .int (fd)), (2, .int (nI (((s_mn f en cn) - 1) / 2))), (0, .ref o), (1, .int (en))]) hx hb dX5_median_67 hl (by decide) rfl (fun ls hl => ?_)
                refine lv_iload hx hb dX5_median_69 (lvG hl rfl) ?_
                refine lv_iload hx hb dX5_median_71 (lvG hl rfl) ?_
                refine n_if_eq (tgt := 101) hC dX5_median_73 (by decide) (by decide) (fun _ => ?_) (fun c => absurd c (by decide))
                refine lv_iconst (v := nI 0) hx hb dX5_median_101 (by decide) ?_
                refine n_iadd hC dX5_median_102 ?_
                refine lv_istore (lv' := [(5, .int (nI (ls1 + 0))), (8, .int (nI 0)), (7, .int (nI w)), (6, .int (nI sm)), (4, .int (nI j)), (3, .int (fd)), (2, .int (nI (((s_mn f en cn) - 1) / 2))), (0, .ref o), (1, .int (en))]) hx hb dX5_median_103 hl (by decide) rfl (fun ls hl => ?_)
                refine lv_iload hx hb dX5_median_105 (lvG hl rfl) ?_
                refine lv_iload hx hb dX5_median_107 (lvG hl rfl) ?_
                refine n_if_eq (tgt := 137) hC dX5_median_109 (by decide) (by decide) (fun _ => ?_) (fun c => absurd c (by decide))
                refine lv_iconst (v := nI 0) hx hb dX5_median_137 (by decide) ?_
                refine n_iadd hC dX5_median_138 ?_
                refine lv_istore (lv' := [(6, .int (nI (sm + 0))), (5, .int (nI (ls1 + 0))), (8, .int (nI 0)), (7, .int (nI w)), (4, .int (nI j)), (3, .int (fd)), (2, .int (nI (((s_mn f en cn) - 1) / 2))), (0, .ref o), (1, .int (en))]) hx hb dX5_median_139 hl (by decide) rfl (fun ls hl => ?_)
                refine n_iinc (lv' := [(7, .int (nI (w + 1))), (6, .int (nI (sm + 0))), (5, .int (nI (ls1 + 0))), (8, .int (nI 0)), (4, .int (nI j)), (3, .int (fd)), (2, .int (nI (((s_mn f en cn) - 1) / 2))), (0, .ref o), (1, .int (en))]) hC dX5_median_141 hl rfl (by decide) rfl (fun ls hl => ?_)
                refine lv_goto (tgt := 36) hx hb dX5_median_144 (by decide) ?_
                exact ih_6 (w + 1) (sm + 0) (ls1 + 0)  (by first | omega | assumption | rfl) (by unfold s_le; rw [← hls]; first | (rw [if_pos ⟨zc59, Int32.not_le.mp zc94⟩]; done) | (rw [if_neg (fun q => absurd q.2 (Int32.not_lt.mpr zc94))]; done) | (rw [if_neg (fun q => zc59 q.1)]; done)) (by unfold s_sa; rw [← hsm]; first | (rw [if_pos ⟨zc59, zc130⟩]; done) | (rw [if_neg (fun q => zc130 q.2)]; done) | (rw [if_neg (fun q => zc59 q.1)]; done)) (by omega) ls (lv_sub hl [0, 1, 2, 4, 5, 6, 7, 8] rfl)
              · refine lv_iconst (v := nI 1) hx hb dX5_median_62 (by decide) ?_
                refine lv_goto (tgt := 67) hx hb dX5_median_63 (by decide) ?_
                refine lv_istore (lv' := [(8, .int (nI 1)), (7, .int (nI w)), (6, .int (nI sm)), (5, .int (nI ls1)), (4, .int (nI j)), (3, .int (fd)), (2, .int (nI (((s_mn f en cn) - 1) / 2))), (0, .ref o), (1, .int (en))]) hx hb dX5_median_67 hl (by decide) rfl (fun ls hl => ?_)
                refine lv_iload hx hb dX5_median_69 (lvG hl rfl) ?_
                refine lv_iload hx hb dX5_median_71 (lvG hl rfl) ?_
                refine n_if_eq (tgt := 101) hC dX5_median_73 (by decide) (by decide) (fun c => absurd c (by decide)) (fun _ => ?_)
                refine lv_aload_n hx hb dX5_median_76 rfl (lvG hl rfl) ?_
                refine lv_iload hx hb dX5_median_77 (lvG hl rfl) ?_
                refine k_callPI (k_goS (rest := [.ref o, .int (nI ls1)]) hC hK (c_X5_at l g w) L_X5_X5_at (⟨⟨Nat.le_of_ble_eq_true rfl, Nat.le_of_ble_eq_true rfl⟩, ⟨rfl, rfl⟩, ⟨Nat.le_of_ble_eq_true rfl, Nat.le_of_ble_eq_true rfl⟩⟩) (trivial) rfl hl.1 rfl (Nat.le_of_ble_eq_true rfl) dX5_median_79) ?_
                refine k_callPI (k_goV (rest := [.int (nI ls1)]) hC hK (c_X5_areaAt l g o q f n (62 + 44 * w + 2) (by first | assumption | omega)) L_X5_X5_areaAt (⟨⟨Nat.le_of_ble_eq_true rfl, Nat.le_of_ble_eq_true rfl⟩, ⟨rfl, rfl⟩, ⟨Nat.le_of_ble_eq_true rfl, Nat.le_of_ble_eq_true rfl⟩⟩) (hP.recv hK) (hP) rfl hl.1 rfl (Nat.le_of_ble_eq_true rfl) dX5_median_82) ?_
                refine lv_aload_n hx hb dX5_median_85 rfl (lvG hl rfl) ?_
                refine lv_iload hx hb dX5_median_86 (lvG hl rfl) ?_
                refine k_callPI (k_goS (rest := [.ref o, .int (s_ar (fun k => f ((62 + 44 * w + 2) + k)) 20), .int (nI ls1)]) hC hK (c_X5_at l g j) L_X5_X5_at (⟨⟨Nat.le_of_ble_eq_true rfl, Nat.le_of_ble_eq_true rfl⟩, ⟨rfl, rfl⟩, ⟨Nat.le_of_ble_eq_true rfl, Nat.le_of_ble_eq_true rfl⟩⟩) (trivial) rfl hl.1 rfl (Nat.le_of_ble_eq_true rfl) dX5_median_88) ?_
                refine k_callPI (k_goV (rest := [.int (s_ar (fun k => f ((62 + 44 * w + 2) + k)) 20), .int (nI ls1)]) hC hK (c_X5_areaAt l g o q f n (62 + 44 * j + 2) (by first | assumption | omega)) L_X5_X5_areaAt (⟨⟨Nat.le_of_ble_eq_true rfl, Nat.le_of_ble_eq_true rfl⟩, ⟨rfl, rfl⟩, ⟨Nat.le_of_ble_eq_true rfl, Nat.le_of_ble_eq_true rfl⟩⟩) (hP.recv hK) (hP) rfl hl.1 rfl (Nat.le_of_ble_eq_true rfl) dX5_median_91) ?_
                refine lv_icmp_ge (tgt := 101) hx hb dX5_median_94 (by decide) (fun zc94 => ?_) (fun zc94 => ?_)
                · refine lv_iconst (v := nI 0) hx hb dX5_median_101 (by decide) ?_
                  refine n_iadd hC dX5_median_102 ?_
                  refine lv_istore (lv' := [(5, .int (nI (ls1 + 0))), (8, .int (nI 1)), (7, .int (nI w)), (6, .int (nI sm)), (4, .int (nI j)), (3, .int (fd)), (2, .int (nI (((s_mn f en cn) - 1) / 2))), (0, .ref o), (1, .int (en))]) hx hb dX5_median_103 hl (by decide) rfl (fun ls hl => ?_)
                  refine lv_iload hx hb dX5_median_105 (lvG hl rfl) ?_
                  refine lv_iload hx hb dX5_median_107 (lvG hl rfl) ?_
                  refine n_if_eq (tgt := 137) hC dX5_median_109 (by decide) (by decide) (fun c => absurd c (by decide)) (fun _ => ?_)
                  refine lv_aload_n hx hb dX5_median_112 rfl (lvG hl rfl) ?_
                  refine lv_iload hx hb dX5_median_113 (lvG hl rfl) ?_
                  refine k_callPI (k_goS (rest := [.ref o, .int (nI sm)]) hC hK (c_X5_at l g w) L_X5_X5_at (⟨⟨Nat.le_of_ble_eq_true rfl, Nat.le_of_ble_eq_true rfl⟩, ⟨rfl, rfl⟩, ⟨Nat.le_of_ble_eq_true rfl, Nat.le_of_ble_eq_true rfl⟩⟩) (trivial) rfl hl.1 rfl (Nat.le_of_ble_eq_true rfl) dX5_median_115) ?_
                  refine k_callPI (k_goV (rest := [.int (nI sm)]) hC hK (c_X5_areaAt l g o q f n (62 + 44 * w + 2) (by first | assumption | omega)) L_X5_X5_areaAt (⟨⟨Nat.le_of_ble_eq_true rfl, Nat.le_of_ble_eq_true rfl⟩, ⟨rfl, rfl⟩, ⟨Nat.le_of_ble_eq_true rfl, Nat.le_of_ble_eq_true rfl⟩⟩) (hP.recv hK) (hP) rfl hl.1 rfl (Nat.le_of_ble_eq_true rfl) dX5_median_118) ?_
                  refine lv_aload_n hx hb dX5_median_121 rfl (lvG hl rfl) ?_
                  refine lv_iload hx hb dX5_median_122 (lvG hl rfl) ?_
                  refine k_callPI (k_goS (rest := [.ref o, .int (s_ar (fun k => f ((62 + 44 * w + 2) + k)) 20), .int (nI sm)]) hC hK (c_X5_at l g j) L_X5_X5_at (⟨⟨Nat.le_of_ble_eq_true rfl, Nat.le_of_ble_eq_true rfl⟩, ⟨rfl, rfl⟩, ⟨Nat.le_of_ble_eq_true rfl, Nat.le_of_ble_eq_true rfl⟩⟩) (trivial) rfl hl.1 rfl (Nat.le_of_ble_eq_true rfl) dX5_median_124) ?_
                  refine k_callPI (k_goV (rest := [.int (s_ar (fun k => f ((62 + 44 * w + 2) + k)) 20), .int (nI sm)]) hC hK (c_X5_areaAt l g o q f n (62 + 44 * j + 2) (by first | assumption | omega)) L_X5_X5_areaAt (⟨⟨Nat.le_of_ble_eq_true rfl, Nat.le_of_ble_eq_true rfl⟩, ⟨rfl, rfl⟩, ⟨Nat.le_of_ble_eq_true rfl, Nat.le_of_ble_eq_true rfl⟩⟩) (hP.recv hK) (hP) rfl hl.1 rfl (Nat.le_of_ble_eq_true rfl) dX5_median_127) ?_
                  refine lv_icmp_ne (tgt := 137) hx hb dX5_median_130 (by decide) (fun zc130 => ?_) (fun zc130 => ?_)
                  · refine lv_iconst (v := nI 0) hx hb dX5_median_137 (by decide) ?_
                    refine n_iadd hC dX5_median_138 ?_
                    refine lv_istore (lv' := [(6, .int (nI (sm + 0))), (5, .int (nI (ls1 + 0))), (8, .int (nI 1)), (7, .int (nI w)), (4, .int (nI j)), (3, .int (fd)), (2, .int (nI (((s_mn f en cn) - 1) / 2))), (0, .ref o), (1, .int (en))]) hx hb dX5_median_139 hl (by decide) rfl (fun ls hl => ?_)
                    refine n_iinc (lv' := [(7, .int (nI (w + 1))), (6, .int (nI (sm + 0))), (5, .int (nI (ls1 + 0))), (8, .int (nI 1)), (4, .int (nI j)), (3, .int (fd)), (2, .int (nI (((s_mn f en cn) - 1) / 2))), (0, .ref o), (1, .int (en))]) hC dX5_median_141 hl rfl (by decide) rfl (fun ls hl => ?_)
                    refine lv_goto (tgt := 36) hx hb dX5_median_144 (by decide) ?_
                    exact ih_6 (w + 1) (sm + 0) (ls1 + 0)  (by first | omega | assumption | rfl) (by unfold s_le; rw [← hls]; first | (rw [if_pos ⟨zc59, Int32.not_le.mp zc94⟩]; done) | (rw [if_neg (fun q => absurd q.2 (Int32.not_lt.mpr zc94))]; done) | (rw [if_neg (fun q => zc59 q.1)]; done)) (by unfold s_sa; rw [← hsm]; first | (rw [if_pos ⟨zc59, zc130⟩]; done) | (rw [if_neg (fun q => zc130 q.2)]; done) | (rw [if_neg (fun q => zc59 q.1)]; done)) (by omega) ls (lv_sub hl [0, 1, 2, 4, 5, 6, 7, 8] rfl)
                  · refine lv_iconst (v := nI 1) hx hb dX5_median_133 (by decide) ?_
                    refine lv_goto (tgt := 138) hx hb dX5_median_134 (by decide) ?_
                    refine n_iadd hC dX5_median_138 ?_
                    refine lv_istore (lv' := [(6, .int (nI (sm + 1))), (5, .int (nI (ls1 + 0))), (8, .int (nI 1)), (7, .int (nI w)), (4, .int (nI j)), (3, .int (fd)), (2, .int (nI (((s_mn f en cn) - 1) / 2))), (0, .ref o), (1, .int (en))]) hx hb dX5_median_139 hl (by decide) rfl (fun ls hl => ?_)
                    refine n_iinc (lv' := [(7, .int (nI (w + 1))), (6, .int (nI (sm + 1))), (5, .int (nI (ls1 + 0))), (8, .int (nI 1)), (4, .int (nI j)), (3, .int (fd)), (2, .int (nI (((s_mn f en cn) - 1) / 2))), (0, .ref o), (1, .int (en))]) hC dX5_median_141 hl rfl (by decide) rfl (fun ls hl => ?_)
                    refine lv_goto (tgt := 36) hx hb dX5_median_144 (by decide) ?_
                    exact ih_6 (w + 1) (sm + 1) (ls1 + 0)  (by first | omega | assumption | rfl) (by unfold s_le; rw [← hls]; first | (rw [if_pos ⟨zc59, Int32.not_le.mp zc94⟩]; done) | (rw [if_neg (fun q => absurd q.2 (Int32.not_lt.mpr zc94))]; done) | (rw [if_neg (fun q => zc59 q.1)]; done)) (by unfold s_sa; rw [← hsm]; first | (rw [if_pos ⟨zc59, zc130⟩]; done) | (rw [if_neg (fun q => zc130 q.2)]; done) | (rw [if_neg (fun q => zc59 q.1)]; done)) (by omega) ls (lv_sub hl [0, 1, 2, 4, 5, 6, 7, 8] rfl)
                · refine lv_iconst (v := nI 1) hx hb dX5_median_97 (by decide) ?_
                  refine lv_goto (tgt := 102) hx hb dX5_median_98 (by decide) ?_
                  refine n_iadd hC dX5_median_102 ?_
                  refine lv_istore (lv' := [(5, .int (nI (ls1 + 1))), (8, .int (nI 1)), (7, .int (nI w)), (6, .int (nI sm)), (4, .int (nI j)), (3, .int (fd)), (2, .int (nI (((s_mn f en cn) - 1) / 2))), (0, .ref o), (1, .int (en))]) hx hb dX5_median_103 hl (by decide) rfl (fun ls hl => ?_)
                  refine lv_iload hx hb dX5_median_105 (lvG hl rfl) ?_
                  refine lv_iload hx hb dX5_median_107 (lvG hl rfl) ?_
                  refine n_if_eq (tgt := 137) hC dX5_median_109 (by decide) (by decide) (fun c => absurd c (by decide)) (fun _ => ?_)
                  refine lv_aload_n hx hb dX5_median_112 rfl (lvG hl rfl) ?_
                  refine lv_iload hx hb dX5_median_113 (lvG hl rfl) ?_
                  refine k_callPI (k_goS (rest := [.ref o, .int (nI sm)]) hC hK (c_X5_at l g w) L_X5_X5_at (⟨⟨Nat.le_of_ble_eq_true rfl, Nat.le_of_ble_eq_true rfl⟩, ⟨rfl, rfl⟩, ⟨Nat.le_of_ble_eq_true rfl, Nat.le_of_ble_eq_true rfl⟩⟩) (trivial) rfl hl.1 rfl (Nat.le_of_ble_eq_true rfl) dX5_median_115) ?_
                  refine k_callPI (k_goV (rest := [.int (nI sm)]) hC hK (c_X5_areaAt l g o q f n (62 + 44 * w + 2) (by first | assumption | omega)) L_X5_X5_areaAt (⟨⟨Nat.le_of_ble_eq_true rfl, Nat.le_of_ble_eq_true rfl⟩, ⟨rfl, rfl⟩, ⟨Nat.le_of_ble_eq_true rfl, Nat.le_of_ble_eq_true rfl⟩⟩) (hP.recv hK) (hP) rfl hl.1 rfl (Nat.le_of_ble_eq_true rfl) dX5_median_118) ?_
                  refine lv_aload_n hx hb dX5_median_121 rfl (lvG hl rfl) ?_
                  refine lv_iload hx hb dX5_median_122 (lvG hl rfl) ?_
                  refine k_callPI (k_goS (rest := [.ref o, .int (s_ar (fun k => f ((62 + 44 * w + 2) + k)) 20), .int (nI sm)]) hC hK (c_X5_at l g j) L_X5_X5_at (⟨⟨Nat.le_of_ble_eq_true rfl, Nat.le_of_ble_eq_true rfl⟩, ⟨rfl, rfl⟩, ⟨Nat.le_of_ble_eq_true rfl, Nat.le_of_ble_eq_true rfl⟩⟩) (trivial) rfl hl.1 rfl (Nat.le_of_ble_eq_true rfl) dX5_median_124) ?_
                  refine k_callPI (k_goV (rest := [.int (s_ar (fun k => f ((62 + 44 * w + 2) + k)) 20), .int (nI sm)]) hC hK (c_X5_areaAt l g o q f n (62 + 44 * j + 2) (by first | assumption | omega)) L_X5_X5_areaAt (⟨⟨Nat.le_of_ble_eq_true rfl, Nat.le_of_ble_eq_true rfl⟩, ⟨rfl, rfl⟩, ⟨Nat.le_of_ble_eq_true rfl, Nat.le_of_ble_eq_true rfl⟩⟩) (hP.recv hK) (hP) rfl hl.1 rfl (Nat.le_of_ble_eq_true rfl) dX5_median_127) ?_
                  refine lv_icmp_ne (tgt := 137) hx hb dX5_median_130 (by decide) (fun zc130 => ?_) (fun zc130 => ?_)
                  · refine lv_iconst (v := nI 0) hx hb dX5_median_137 (by decide) ?_
                    refine n_iadd hC dX5_median_138 ?_
                    refine lv_istore (lv' := [(6, .int (nI (sm + 0))), (5, .int (nI (ls1 + 1))), (8, .int (nI 1)), (7, .int (nI w)), (4, .int (nI j)), (3, .int (fd)), (2, .int (nI (((s_mn f en cn) - 1) / 2))), (0, .ref o), (1, .int (en))]) hx hb dX5_median_139 hl (by decide) rfl (fun ls hl => ?_)
                    refine n_iinc (lv' := [(7, .int (nI (w + 1))), (6, .int (nI (sm + 0))), (5, .int (nI (ls1 + 1))), (8, .int (nI 1)), (4, .int (nI j)), (3, .int (fd)), (2, .int (nI (((s_mn f en cn) - 1) / 2))), (0, .ref o), (1, .int (en))]) hC dX5_median_141 hl rfl (by decide) rfl (fun ls hl => ?_)
                    refine lv_goto (tgt := 36) hx hb dX5_median_144 (by decide) ?_
                    exact ih_6 (w + 1) (sm + 0) (ls1 + 1)  (by first | omega | assumption | rfl) (by unfold s_le; rw [← hls]; first | (rw [if_pos ⟨zc59, Int32.not_le.mp zc94⟩]; done) | (rw [if_neg (fun q => absurd q.2 (Int32.not_lt.mpr zc94))]; done) | (rw [if_neg (fun q => zc59 q.1)]; done)) (by unfold s_sa; rw [← hsm]; first | (rw [if_pos ⟨zc59, zc130⟩]; done) | (rw [if_neg (fun q => zc130 q.2)]; done) | (rw [if_neg (fun q => zc59 q.1)]; done)) (by omega) ls (lv_sub hl [0, 1, 2, 4, 5, 6, 7, 8] rfl)
                  · refine lv_iconst (v := nI 1) hx hb dX5_median_133 (by decide) ?_
                    refine lv_goto (tgt := 138) hx hb dX5_median_134 (by decide) ?_
                    refine n_iadd hC dX5_median_138 ?_
                    refine lv_istore (lv' := [(6, .int (nI (sm + 1))), (5, .int (nI (ls1 + 1))), (8, .int (nI 1)), (7, .int (nI w)), (4, .int (nI j)), (3, .int (fd)), (2, .int (nI (((s_mn f en cn) - 1) / 2))), (0, .ref o), (1, .int (en))]) hx hb dX5_median_139 hl (by decide) rfl (fun ls hl => ?_)
                    refine n_iinc (lv' := [(7, .int (nI (w + 1))), (6, .int (nI (sm + 1))), (5, .int (nI (ls1 + 1))), (8, .int (nI 1)), (4, .int (nI j)), (3, .int (fd)), (2, .int (nI (((s_mn f en cn) - 1) / 2))), (0, .ref o), (1, .int (en))]) hC dX5_median_141 hl rfl (by decide) rfl (fun ls hl => ?_)
                    refine lv_goto (tgt := 36) hx hb dX5_median_144 (by decide) ?_
                    exact ih_6 (w + 1) (sm + 1) (ls1 + 1)  (by first | omega | assumption | rfl) (by unfold s_le; rw [← hls]; first | (rw [if_pos ⟨zc59, Int32.not_le.mp zc94⟩]; done) | (rw [if_neg (fun q => absurd q.2 (Int32.not_lt.mpr zc94))]; done) | (rw [if_neg (fun q => zc59 q.1)]; done)) (by unfold s_sa; rw [← hsm]; first | (rw [if_pos ⟨zc59, zc130⟩]; done) | (rw [if_neg (fun q => zc130 q.2)]; done) | (rw [if_neg (fun q => zc59 q.1)]; done)) (by omega) ls (lv_sub hl [0, 1, 2, 4, 5, 6, 7, 8] rfl)
        exact key_4 ((cn - 0) + 1) 0 0 0  (by first | rfl | omega | assumption) (by first | rfl | omega | assumption) (by first | rfl | omega | assumption) (Nat.lt_succ_self _) ls (lv_sub hl [0, 1, 2, 3, 4, 5, 6, 7] rfl)
  exact key_1 ((cn - 0) + 1) 0 (nI 0)  (by first | rfl | omega | assumption) (by first | rfl | omega | assumption) (Nat.lt_succ_self _) ls (lv_sub hl [0, 1, 2, 3, 4] rfl)
abbrev s_out (en pct md : Int32) (F : Nat → Int32) (x : Nat) : Prop := F (62 + 44 * x) = en ∧ pct * s_size md < s_size (s_A F x - md) * nI 100
def s_ro (en pct md : Int32) : Nat → (Nat → Int32) → Nat → Nat → (Nat → Int32) × Nat
  | 0, F, _, rc => (F, rc)
  | x + 1, F, ct, rc => if s_out en pct md F x then s_ro en pct md x (s_rmU F x ct) (ct - 1) (rc + 1) else s_ro en pct md x F ct rc
theorem s_ro_t {en pct md : Int32} {x ct rc : Nat} {F : Nat → Int32} (h : s_out en pct md F x) : s_ro en pct md (x + 1) F ct rc = s_ro en pct md x (s_rmU F x ct) (ct - 1) (rc + 1) := if_pos h
theorem s_ro_f {en pct md : Int32} {x ct rc : Nat} {F : Nat → Int32} (h : ¬ s_out en pct md F x) : s_ro en pct md (x + 1) F ct rc = s_ro en pct md x F ct rc := if_neg h
abbrev s_okO (f : Nat → Int32) (en pct : Int32) (cn : Nat) : Prop := ((nI 0 ≤ en ∧ en ≤ nI 1) ∧ (nI 0 ≤ pct ∧ pct ≤ nI 100)) ∧ ¬ s_mn f en cn = 0
def s_rro (f : Nat → Int32) (n : Nat) (en pct : Int32) (cn : Nat) : (Nat → Int32) × Nat := s_ro en pct (s_mdn (s_rec f n) en cn) cn (s_rec f n) cn 0
def s_roR (f : Nat → Int32) (n : Nat) (en pct : Int32) (cn : Nat) : Int32 := if (nI 0 ≤ en ∧ en ≤ nI 1) ∧ (nI 0 ≤ pct ∧ pct ≤ nI 100) then (if s_mn f en cn = 0 then cILL else nI (s_rro f n en pct cn).2) else cINV
def s_roF (f : Nat → Int32) (n : Nat) (en pct : Int32) (cn : Nat) : Nat → Int32 := if s_okO f en pct cn then (s_rro f n en pct cn).1 else f
def s_roN (f : Nat → Int32) (n : Nat) (en pct : Int32) (cn : Nat) : Nat := if s_okO f en pct cn then s_recn n else n
theorem s_mn_eq {f F : Nat → Int32} (en : Int32) : ∀ k, k ≤ 10 → (∀ j, j < 502 → F j = f j) → s_mn F en k = s_mn f en k
  | 0, _, _ => rfl
  | k + 1, hk, h => by unfold s_mn; rw [s_mn_eq en k (by omega) h, h (62 + 44 * k) (by omega)]
theorem L_X5_X5_median : LnkV RX5 146 yX5_median cX5_median 9 (some .int) 1 := ⟨w_923, w_925, w_51, w_60, w_926, ⟨by decide +kernel, by decide +kernel⟩, by decide +kernel⟩
set_option maxHeartbeats 4000000 in
set_option maxRecDepth 100000 in
theorem c_X5_removeOutliers (l : Launch) (g : kG) (o : Nat) (q : Nat) (f : Nat → Int32) (n : Nat) (en : Int32) (pct : Int32) (cn : Nat) (hc : f 61 = nI cn) (hcn : cn ≤ 10) : MI l yX5_removeOutliers cX5_removeOutliers 7 (some .int) (rr 3 73) [.ref o, .int (en), .int (pct)] ((RP g o q f n)) g 0 0 (RA o q) (fun r H1 => r = s_roR f n en pct cn ∧ RP g o q (s_roF f n en pct cn) (s_roN f n en pct cn) H1) := by
  refine kOf (by decide) (Nat.le_of_ble_eq_true rfl) (fun p e s m below meth c ls hC hr hlk hin hK hP hl => ?_)
  have hx := hC.1
  have hb := hC.2.1
  have hml := hC.2.2.1
  have hown := hC.2.2.2.1
  have hts := hC.2.2.2.2
  have hl : lv_has ls 7 [(0, .ref o), (1, .int (en)), (2, .int (pct))] := hl
  have hS : va_S (RA o q) s.heap s.heap [] := va_S.rf
  have hmn := s_mn_le f en cn
  have hn4 := hP.2.1
  refine lv_iload_n hx hb dX5_removeOutliers_0 rfl (lvG hl rfl) ?_
  refine k_callPI (k_goS (rest := []) hC hK (c_X5_isEnd l g en) L_X5_X5_isEnd (⟨⟨Nat.le_of_ble_eq_true rfl, Nat.le_of_ble_eq_true rfl⟩, ⟨rfl, rfl⟩, ⟨Nat.le_of_ble_eq_true rfl, Nat.le_of_ble_eq_true rfl⟩⟩) (trivial) rfl hl.1 rfl (Nat.le_of_ble_eq_true rfl) dX5_removeOutliers_1) ?_
  refine b_ifeq (tgt := 17) hC dX5_removeOutliers_4 (by decide) (fun zc4 => ?_) (fun zc4 => ?_)
  · refine lv_ldc (v := (-2000000001 : Int32)) hx hb hown (hts _ w_669) dX5_removeOutliers_17 ?_
    exact k_iretM hC hr hlk hS dX5_removeOutliers_19 (by have hno : ¬ ((nI 0 ≤ en ∧ en ≤ nI 1) ∧ (nI 0 ≤ pct ∧ pct ≤ nI 100)) := (by grind); unfold s_roR s_roF s_roN; rw [if_neg hno, if_neg (fun q => hno q.1), if_neg (fun q => hno q.1)]; exact ⟨rfl, hP⟩)
  · refine lv_iload_n hx hb dX5_removeOutliers_7 rfl (lvG hl rfl) ?_
    refine lv_iconst (v := nI 0) hx hb dX5_removeOutliers_8 (by decide) ?_
    refine lv_bipush (v := nI 100) hx hb dX5_removeOutliers_9 (by decide) ?_
    refine k_callPI (k_goS (rest := []) hC hK (c_X5_in l g pct (nI 0) (nI 100)) L_X5_X5_in (⟨⟨Nat.le_of_ble_eq_true rfl, Nat.le_of_ble_eq_true rfl⟩, ⟨rfl, rfl⟩, ⟨Nat.le_of_ble_eq_true rfl, Nat.le_of_ble_eq_true rfl⟩⟩) (trivial) rfl hl.1 rfl (Nat.le_of_ble_eq_true rfl) dX5_removeOutliers_11) ?_
    refine b_ifne (tgt := 20) hC dX5_removeOutliers_14 (by decide) (fun zc14 => ?_) (fun zc14 => ?_)
    · refine lv_aload_n hx hb dX5_removeOutliers_20 rfl (lvG hl rfl) ?_
      refine lv_iload_n hx hb dX5_removeOutliers_21 rfl (lvG hl rfl) ?_
      refine k_callPI (k_goV (rest := []) hC hK (c_X5_many l g o q f n en cn hc hcn) L_X5_X5_many (⟨⟨Nat.le_of_ble_eq_true rfl, Nat.le_of_ble_eq_true rfl⟩, ⟨rfl, rfl⟩, ⟨Nat.le_of_ble_eq_true rfl, Nat.le_of_ble_eq_true rfl⟩⟩) (hP.recv hK) (hP) rfl hl.1 rfl (Nat.le_of_ble_eq_true rfl) dX5_removeOutliers_22) ?_
      refine n_if_ne (tgt := 31) hC dX5_removeOutliers_25 (by omega) (by decide) (fun zc25 => ?_) (fun zc25 => ?_)
      · refine lv_aload_n hx hb dX5_removeOutliers_31 rfl (lvG hl rfl) ?_
        refine k_callMV0 (k_goV (rest := []) hC hK (c_X5_record l g o q f n) L_X5_X5_record (⟨⟨Nat.le_of_ble_eq_true rfl, Nat.le_of_ble_eq_true rfl⟩, ⟨rfl, rfl⟩, ⟨Nat.le_of_ble_eq_true rfl, Nat.le_of_ble_eq_true rfl⟩⟩) (hP.recv hK) (hP) rfl hl.1 rfl (Nat.le_of_ble_eq_true rfl) dX5_removeOutliers_32) hS (fun _ h => h) (fun H_1 locs_2 hP_3 _ _ hS_4 => ?_)
        refine lv_aload_n hx hb dX5_removeOutliers_35 rfl (lvG hl rfl) ?_
        refine lv_iload_n hx hb dX5_removeOutliers_36 rfl (lvG hl rfl) ?_
        refine k_callPI (k_goV (rest := []) hC hK (c_X5_median l g o q (s_rec f n) (s_recn n) en (cn) ((s_rec_lo f n (j := 61) (by omega)).trans hc) (by first | assumption | omega) (Nat.pos_of_ne_zero (by rw [s_mn_eq (F := s_rec f n) (f := f) en cn hcn (fun j hj => s_rec_lo f n hj)]; exact zc25))) L_X5_X5_median (⟨⟨Nat.le_of_ble_eq_true rfl, Nat.le_of_ble_eq_true rfl⟩, ⟨rfl, rfl⟩, ⟨Nat.le_of_ble_eq_true rfl, Nat.le_of_ble_eq_true rfl⟩⟩) (hP_3.recv hK) (hP_3) rfl hl.1 rfl (Nat.le_of_ble_eq_true rfl) dX5_removeOutliers_37) ?_
        refine lv_topi (fun md emd => ?_)
        refine lv_istore_n (lv' := [(3, .int (md)), (0, .ref o), (1, .int (en)), (2, .int (pct))]) hx hb dX5_removeOutliers_40 rfl hl (by decide) rfl (fun ls hl => ?_)
        refine lv_iconst (v := nI 0) hx hb dX5_removeOutliers_41 (by decide) ?_
        refine lv_istore (lv' := [(4, .int (nI 0)), (3, .int (md)), (0, .ref o), (1, .int (en)), (2, .int (pct))]) hx hb dX5_removeOutliers_42 hl (by decide) rfl (fun ls hl => ?_)
        refine lv_aload_n hx hb dX5_removeOutliers_44 rfl (lvG hl rfl) ?_
        refine r_row hC hK hP_3 dX5_removeOutliers_45 ?_
        refine lv_bipush (v := nI 61) hx hb dX5_removeOutliers_48 (by decide) ?_
        refine r_ald (k := 61) hC hK hP_3 (by omega) dX5_removeOutliers_50 ?_
        rw [show s_rec f n 61 = nI cn from (s_rec_lo f n (j := 61) (by omega)).trans hc]
        refine lv_iconst (v := nI 1) hx hb dX5_removeOutliers_51 (by decide) ?_
        refine n_isub hC dX5_removeOutliers_52 (by omega) ?_
        refine lv_istore (lv' := [(5, .int (nI (cn - 1))), (4, .int (nI 0)), (3, .int (md)), (0, .ref o), (1, .int (en)), (2, .int (pct))]) hx hb dX5_removeOutliers_53 hl (by decide) rfl (fun ls hl => ?_)
        have hl : lv_has ls 7 [(5, .int (nI cn + (-1))), (4, .int (nI 0)), (3, .int (md)), (0, .ref o), (1, .int (en)), (2, .int (pct))] := lv_eq hl (by rw [show cn = (cn - 1) + 1 by omega, pk_m1, Nat.add_sub_cancel])
        have key_5 : ∀ (k_6 : Nat) (rcn : Nat) (x : Nat) (ct : Nat) (F : Nat → Int32) (H_l55 : Heap) (locs_l55 : List Loc) (hP_l55 : RP g o q F (s_recn n) H_l55) (hS_l55 : va_S (RA o q) s.heap H_l55 locs_l55) (hx1 : x ≤ ct) (hct : ct ≤ cn) (h61 : F 61 = nI ct) (hmd : md = s_mdn (s_rec f n) en cn) (hst : s_ro en pct md x F ct rcn = s_ro en pct (s_mdn (s_rec f n) en cn) cn (s_rec f n) cn 0) (hk_k_6 : x < k_6) (ls : Array Slot) (hl : lv_has ls 7 [(5, .int (nI x + (-1))), (4, .int (nI rcn)), (3, .int (md)), (0, .ref o), (1, .int (en)), (2, .int (pct))]), W p l e (rr 3 73) s m [.ref o, .int (en), .int (pct)].toArray below meth c H_l55 locs_l55 0 0 (MQ below (qI (RA o q) (fun r H1 => r = s_roR f n en pct cn ∧ RP g o q (s_roF f n en pct cn) (s_roN f n en pct cn) H1)) [.ref o, .int (en), .int (pct)].toArray s 0 0 (RA o q)) (F0 m 55 ls ([])) := by
          intro k_6
          induction k_6 with
          | zero => intro rcn x ct F H_l55 locs_l55 hP_l55 hS_l55 hx1 hct h61 hmd hst hk_k_6 ls hl; exact absurd hk_k_6 (Nat.not_lt_zero _)
          | succ k_6 ih_7 =>
            intro rcn x ct F H_l55 locs_l55 hP_l55 hS_l55 hx1 hct h61 hmd hst hk_k_6 ls hl
            refine lv_iload hx hb dX5_removeOutliers_55 (lvG hl rfl) ?_
            refine z_if_lt (tgt := 119) hC dX5_removeOutliers_57 (by decide) (fun zc57 => ?_) (fun zc57 => ?_)
            · refine lv_iload hx hb dX5_removeOutliers_119 (lvG hl rfl) ?_
              exact k_iretM hC hr hlk hS_l55 dX5_removeOutliers_121 (by have hx2 : x = 0 := (pd_lt (by omega)).mp zc57; rw [hx2] at hst; have e1 : (F, rcn) = s_rro f n en pct cn := hst; unfold s_roR s_roF s_roN; rw [if_pos ⟨zc4, zc14⟩, if_neg zc25, if_pos ⟨⟨zc4, zc14⟩, zc25⟩, if_pos ⟨⟨zc4, zc14⟩, zc25⟩, ← e1]; exact ⟨rfl, hP_l55⟩)
            · obtain ⟨z, rfl⟩ : ∃ z, x = z + 1 := ⟨x - 1, by have := mt (pd_lt (x := x) (by omega)).mpr zc57; omega⟩
              have hl : lv_has ls 7 [(5, .int (nI z)), (4, .int (nI rcn)), (3, .int (md)), (0, .ref o), (1, .int (en)), (2, .int (pct))] := lv_eq hl (by rw [pk_m1])
              refine lv_aload_n hx hb dX5_removeOutliers_60 rfl (lvG hl rfl) ?_
              refine lv_iload hx hb dX5_removeOutliers_61 (lvG hl rfl) ?_
              refine k_callPI (k_goS (rest := [.ref o]) hC hK (c_X5_at l g z) L_X5_X5_at (⟨⟨Nat.le_of_ble_eq_true rfl, Nat.le_of_ble_eq_true rfl⟩, ⟨rfl, rfl⟩, ⟨Nat.le_of_ble_eq_true rfl, Nat.le_of_ble_eq_true rfl⟩⟩) (trivial) rfl hl.1 rfl (Nat.le_of_ble_eq_true rfl) dX5_removeOutliers_63) ?_
              refine k_callPI (k_goV (rest := []) hC hK (c_X5_areaAt l g o q F (s_recn n) (62 + 44 * z + 2) (by first | assumption | omega)) L_X5_X5_areaAt (⟨⟨Nat.le_of_ble_eq_true rfl, Nat.le_of_ble_eq_true rfl⟩, ⟨rfl, rfl⟩, ⟨Nat.le_of_ble_eq_true rfl, Nat.le_of_ble_eq_true rfl⟩⟩) (hP_l55.recv hK) (hP_l55) rfl hl.1 rfl (Nat.le_of_ble_eq_true rfl) dX5_removeOutliers_66) ?_
              refine lv_iload_n hx hb dX5_removeOutliers_69 rfl (lvG hl rfl) ?_
              refine lv_isub hx hb dX5_removeOutliers_70 ?_
              refine k_callPI (k_goS (rest := []) hC hK (c_X5_size l g ((s_ar (fun k => F ((62 + 44 * z + 2) + k)) 20) - md)) L_X5_X5_size (⟨⟨Nat.le_of_ble_eq_true rfl, Nat.le_of_ble_eq_true rfl⟩, ⟨rfl, rfl⟩, ⟨Nat.le_of_ble_eq_true rfl, Nat.le_of_ble_eq_true rfl⟩⟩) (trivial) rfl hl.1 rfl (Nat.le_of_ble_eq_true rfl) dX5_removeOutliers_71) ?_
              refine lv_istore (lv' := [(6, .int (s_size ((s_ar (fun k => F ((62 + 44 * z + 2) + k)) 20) - md))), (5, .int (nI z)), (4, .int (nI rcn)), (3, .int (md)), (0, .ref o), (1, .int (en)), (2, .int (pct))]) hx hb dX5_removeOutliers_74 hl (by decide) rfl (fun ls hl => ?_)
              refine lv_aload_n hx hb dX5_removeOutliers_76 rfl (lvG hl rfl) ?_
              refine r_row hC hK hP_l55 dX5_removeOutliers_77 ?_
              refine lv_iload hx hb dX5_removeOutliers_80 (lvG hl rfl) ?_
              refine k_callPI (k_goS (rest := [.ref q]) hC hK (c_X5_endAt l g z) L_X5_X5_endAt (⟨⟨Nat.le_of_ble_eq_true rfl, Nat.le_of_ble_eq_true rfl⟩, ⟨rfl, rfl⟩, ⟨Nat.le_of_ble_eq_true rfl, Nat.le_of_ble_eq_true rfl⟩⟩) (trivial) rfl hl.1 rfl (Nat.le_of_ble_eq_true rfl) dX5_removeOutliers_82) ?_
              refine r_ald (k := 62 + 44 * z) hC hK hP_l55 (by omega) dX5_removeOutliers_85 ?_
              refine lv_iload_n hx hb dX5_removeOutliers_86 rfl (lvG hl rfl) ?_
              refine lv_icmp_ne (tgt := 113) hx hb dX5_removeOutliers_87 (by decide) (fun zc87 => ?_) (fun zc87 => ?_)
              · refine lv_iinc (v := (nI z) + (-1)) (lv' := [(5, .int ((nI z) + (-1))), (6, .int (s_size ((s_ar (fun k => F ((62 + 44 * z + 2) + k)) 20) - md))), (4, .int (nI rcn)), (3, .int (md)), (0, .ref o), (1, .int (en)), (2, .int (pct))]) hx hb dX5_removeOutliers_113 hl (k := 1) rfl rfl (by decide) rfl (fun ls hl => ?_)
                refine lv_goto (tgt := 55) hx hb dX5_removeOutliers_116 (by decide) ?_
                exact ih_7 rcn z (ct) F _ _ hP_l55 hS_l55 (by first | omega | assumption | rfl) (by first | omega | assumption | rfl) (by first | exact h61 | exact upd_at _ _ _) (hmd) (by first | (rw [← hst, s_ro_t ⟨zc87, Int32.not_le.mp zc101⟩]; done) | (rw [← hst, s_ro_f (fun q => zc87 q.1)]; done) | (rw [← hst, s_ro_f (fun q => absurd q.2 (Int32.not_lt.mpr zc101))]; done)) (by omega) ls (lv_sub hl [0, 2, 3, 4, 5, 6] rfl)
              · refine lv_iload hx hb dX5_removeOutliers_90 (lvG hl rfl) ?_
                refine lv_bipush (v := nI 100) hx hb dX5_removeOutliers_92 (by decide) ?_
                refine lv_imul hx hb dX5_removeOutliers_94 ?_
                refine lv_iload_n hx hb dX5_removeOutliers_95 rfl (lvG hl rfl) ?_
                refine lv_iload_n hx hb dX5_removeOutliers_96 rfl (lvG hl rfl) ?_
                refine k_callPI (k_goS (rest := [.int (pct), .int ((s_size ((s_ar (fun k => F ((62 + 44 * z + 2) + k)) 20) - md)) * (nI 100))]) hC hK (c_X5_size l g md) L_X5_X5_size (⟨⟨Nat.le_of_ble_eq_true rfl, Nat.le_of_ble_eq_true rfl⟩, ⟨rfl, rfl⟩, ⟨Nat.le_of_ble_eq_true rfl, Nat.le_of_ble_eq_true rfl⟩⟩) (trivial) rfl hl.1 rfl (Nat.le_of_ble_eq_true rfl) dX5_removeOutliers_97) ?_
                refine lv_imul hx hb dX5_removeOutliers_100 ?_
                refine lv_icmp_le (tgt := 113) hx hb dX5_removeOutliers_101 (by decide) (fun zc101 => ?_) (fun zc101 => ?_)
                · refine lv_iinc (v := (nI z) + (-1)) (lv' := [(5, .int ((nI z) + (-1))), (6, .int (s_size ((s_ar (fun k => F ((62 + 44 * z + 2) + k)) 20) - md))), (4, .int (nI rcn)), (3, .int (md)), (0, .ref o), (1, .int (en)), (2, .int (pct))]) hx hb dX5_removeOutliers_113 hl (k := 1) rfl rfl (by decide) rfl (fun ls hl => ?_)
                  refine lv_goto (tgt := 55) hx hb dX5_removeOutliers_116 (by decide) ?_
                  exact ih_7 rcn z (ct) F _ _ hP_l55 hS_l55 (by first | omega | assumption | rfl) (by first | omega | assumption | rfl) (by first | exact h61 | exact upd_at _ _ _) (hmd) (by first | (rw [← hst, s_ro_t ⟨zc87, Int32.not_le.mp zc101⟩]; done) | (rw [← hst, s_ro_f (fun q => zc87 q.1)]; done) | (rw [← hst, s_ro_f (fun q => absurd q.2 (Int32.not_lt.mpr zc101))]; done)) (by omega) ls (lv_sub hl [0, 2, 3, 4, 5, 6] rfl)
                · refine lv_aload_n hx hb dX5_removeOutliers_104 rfl (lvG hl rfl) ?_
                  refine lv_iload hx hb dX5_removeOutliers_105 (lvG hl rfl) ?_
                  refine k_callMV0 (k_goV (rest := []) hC hK (c_X5_remove l g o q F (s_recn n) z (ct) (h61) (by omega) (by omega)) L_X5_X5_remove (⟨⟨Nat.le_of_ble_eq_true rfl, Nat.le_of_ble_eq_true rfl⟩, ⟨rfl, rfl⟩, ⟨Nat.le_of_ble_eq_true rfl, Nat.le_of_ble_eq_true rfl⟩⟩) (hP_l55.recv hK) (hP_l55) rfl hl.1 rfl (Nat.le_of_ble_eq_true rfl) dX5_removeOutliers_107) hS_l55 (fun _ h => h) (fun H_8 locs_9 hP_10 _ _ hS_11 => ?_)
                  refine n_iinc (lv' := [(4, .int (nI (rcn + 1))), (6, .int (s_size ((s_ar (fun k => F ((62 + 44 * z + 2) + k)) 20) - md))), (5, .int (nI z)), (3, .int (md)), (0, .ref o), (1, .int (en)), (2, .int (pct))]) hC dX5_removeOutliers_110 hl rfl (by decide) rfl (fun ls hl => ?_)
                  refine lv_iinc (v := (nI z) + (-1)) (lv' := [(5, .int ((nI z) + (-1))), (4, .int (nI (rcn + 1))), (6, .int (s_size ((s_ar (fun k => F ((62 + 44 * z + 2) + k)) 20) - md))), (3, .int (md)), (0, .ref o), (1, .int (en)), (2, .int (pct))]) hx hb dX5_removeOutliers_113 hl (k := 2) rfl rfl (by decide) rfl (fun ls hl => ?_)
                  refine lv_goto (tgt := 55) hx hb dX5_removeOutliers_116 (by decide) ?_
                  exact ih_7 (rcn + 1) z ((ct - 1)) (s_rmU F z (ct)) _ _ hP_10 hS_11 (by first | omega | assumption | rfl) (by first | omega | assumption | rfl) (by first | exact h61 | exact upd_at _ _ _) (hmd) (by first | (rw [← hst, s_ro_t ⟨zc87, Int32.not_le.mp zc101⟩]; done) | (rw [← hst, s_ro_f (fun q => zc87 q.1)]; done) | (rw [← hst, s_ro_f (fun q => absurd q.2 (Int32.not_lt.mpr zc101))]; done)) (by omega) ls (lv_sub hl [0, 1, 3, 4, 5, 6] rfl)
        exact key_5 (cn + 1) 0 cn cn (s_rec f n) _ _ hP_3 hS_4 (by first | rfl | omega | assumption) (by first | rfl | omega | assumption) ((s_rec_lo f n (j := 61) (by omega)).trans hc) (emd) (by rw [emd]) (Nat.lt_succ_self _) ls (lv_sub hl [0, 1, 2, 3, 4, 5] rfl)
      · refine lv_ldc (v := (-2000000002 : Int32)) hx hb hown (hts _ w_653) dX5_removeOutliers_28 ?_
        exact k_iretM hC hr hlk hS dX5_removeOutliers_30 (by unfold s_roR s_roF s_roN; rw [if_pos ⟨zc4, zc14⟩, if_pos zc25, if_neg (fun q => q.2 zc25), if_neg (fun q => q.2 zc25)]; exact ⟨rfl, hP⟩)
    · refine lv_ldc (v := (-2000000001 : Int32)) hx hb hown (hts _ w_669) dX5_removeOutliers_17 ?_
      exact k_iretM hC hr hlk hS dX5_removeOutliers_19 (by have hno : ¬ ((nI 0 ≤ en ∧ en ≤ nI 1) ∧ (nI 0 ≤ pct ∧ pct ≤ nI 100)) := (by grind); unfold s_roR s_roF s_roN; rw [if_neg hno, if_neg (fun q => hno q.1), if_neg (fun q => hno q.1)]; exact ⟨rfl, hP⟩)
def s_inV (f : Nat → Int32) (i : Nat) : Nat → Int32 := upd (upd (upd f (8 + 4 * i + 1) (nI 8)) (8 + 4 * i + 2) (nI 18)) (8 + 4 * i + 3) (nI 4)
def s_in8 : Nat → Int32 := upd (upd (upd (upd (upd (upd (upd (upd (fun _ => 0) 0 (nI 2)) 1 (nI 1000)) 2 (nI 900)) 3 (nI 60)) 4 (nI 800)) 5 (nI 50)) 6 (nI 10)) 7 (nI 5)
def s_ini : Nat → Int32 := s_inV (s_inV s_in8 0) 1
theorem va_S_mono {A B : Nat → Prop} {H0 H : Heap} {locs : List Loc} (h : va_S A H0 H locs) (hAB : ∀ q, A q → B q) : va_S B H0 H locs := ⟨h.1, fun q h1 h2 => h.2.1 q h1 (fun z => h2 (hAB q z)), fun l hl => hAB _ (h.2.2 l hl)⟩
theorem kInt {g : kG} {s : State} {cA : ClassId} (hK : KK g s) {tys : List (ClassId × FieldType)} (h : va_K g.1 kCl (tys ++ [(cA, .int)]) s) : cA = g.2.1 := by
  have h1 := (hK.1.2 0 _ rfl).2
  have h2 := (h.2 tys.length (cA, .int) (by simp)).2
  exact Option.some.inj (h2.symm.trans h1)
set_option maxHeartbeats 4000000 in
set_option maxRecDepth 100000 in
theorem c_X5_init (l : Launch) (g : kG) (o : Nat) (sz : Nat) : MV l yX5_init cX5_init 2 none (rc 1 14 1 2552) [.ref o] (fun H => H.size = sz ∧ va_P g.1 kCl [(o, .inr (5, [.null, .int (nI 0)]))] H) g 1 2552 (fun a => a = o ∨ sz ≤ a) (fun H1 => ∃ q, sz ≤ q ∧ RP g o q s_ini 0 H1) := by
  refine kOf (by decide) (Nat.le_of_ble_eq_true rfl) (fun p e s m below meth c ls hC hr hlk hin hK hP hl => ?_)
  have hx := hC.1
  have hb := hC.2.1
  have hml := hC.2.2.1
  have hown := hC.2.2.2.1
  have hts := hC.2.2.2.2
  have hl : lv_has ls 2 [(0, .ref o)] := hl
  obtain ⟨hsz, hP0⟩ := hP
  have hS0 : va_S (fun a => a = o ∨ sz ≤ a) s.heap s.heap [] := va_S.rf
  have hA0 : ∀ a, s.heap.size ≤ a → (fun a => a = o ∨ sz ≤ a) a := fun a h => Or.inr (hsz ▸ h)
  have hD0 : va_D (fun a => a = o ∨ sz ≤ a) [(o, .inr (5, [.null, .int (nI 0)]))] := ⟨fun i j x y hi hj _ => by cases i with | zero => (cases j with | zero => rfl | succ j => simp at hj) | succ i => simp at hi, fun k x hk => by cases k with | zero => (cases hk; exact Or.inl rfl) | succ k => simp at hk⟩
  refine lv_aload_n hx hb dX5_init_0 rfl (lvG hl rfl) ?_
  refine W.objInit hx hb hown (hts _ w_637) (hts _ w_69) (hts _ w_70) rfl (by rw [hml]; exact hl.1) rfl dX5_init_1 (Nat.le_of_ble_eq_true rfl) (Nat.le_of_ble_eq_true rfl) ?_
  refine W.eq (g2 := F0 m 4 ls []) rfl ?_
  refine lv_aload_n hx hb dX5_init_4 rfl (lvG hl rfl) ?_
  refine lv_sipush (v := nI 2552) hx hb dX5_init_5 (by decide) ?_
  refine va_newa (atype := .int) (ty := .int) (N' := 2552) (a0 := (2552, .inl (fun _ => 0))) hx hb (hts _ w_92) rfl hK.1 hP0 hD0 hS0 hA0 (fun _ => rfl) (by decide) (by decide) (Nat.le_of_ble_eq_true rfl) (Nat.le_of_ble_eq_true rfl) (Nat.le_of_ble_eq_true rfl) dX5_init_8 (fun q cA H1 hK1 hP1 hD1 hS1 => ?_)
  have hq1 : sz ≤ q := by
    have h1 := hD1.2 1 (q, _) rfl
    have h2 := hD1.1 0 1 (o, _) (q, _) rfl rfl
    exact h1.elim (fun e => absurd (h2 e.symm) (by decide)) id
  have hcA : cA = g.2.1 := kInt hK hK1
  subst hcA
  have hS2 : va_S (RA o q) s.heap H1 [] := ⟨hS1.1, fun a h1 h2 => hS1.2.1 a h1 (fun z => z.elim (fun e => h2 (Or.inl e)) (fun e => absurd h1 (by rw [hsz]; omega))), fun _ h => by cases h⟩
  have hD2 : va_D (RA o q) [(o, .inr (5, [.null, .int (nI 0)])), (q, .inl (g.2.1, 2552, .inl (fun _ => 0)))] := ⟨hD1.1, fun k x hk => by match k, hk with | 0, hk => (cases hk; exact Or.inl rfl) | 1, hk => (cases hk; exact Or.inr rfl) | k + 2, hk => simp at hk⟩
  refine va_putF (D := g.1) (ci := 5) (v := .ref q) (ty := .array .int) (C := RX5) (T := TX5) (N := 2) hx hb hts i_X5 tyX5 tyX5_ok nmX5 hown hK.1 hP1 hD2 hS2 0 rfl rfl 0 (by decide) (hts (.fieldLink RX5 7 RX5 "row" "[I") w_638) (fun _ h9 => h9) rfl hin rfl (by decide +kernel) rfl rfl (Nat.le_of_ble_eq_true rfl) dX5_init_10 (fun H2 locs2 hP2 hD3 hS3 => ?_)
  have hP : RP g o q (fun _ => 0) 0 H2 := ⟨fun e => absurd (hD3.1 0 1 (o, _) (q, _) rfl rfl e) (by decide), by decide, hP2⟩
  refine lv_aload_n hx hb dX5_init_13 rfl (lvG hl rfl) ?_
  refine r_row hC hK hP dX5_init_14 ?_
  refine lv_iconst (v := nI 0) hx hb dX5_init_17 (by decide) ?_
  refine lv_iconst (v := nI 2) hx hb dX5_init_18 (by decide) ?_
  refine r_ast (k := 0) hC hK hP hS3 (by omega) dX5_init_19 (fun H_1 locs_2 hP_3 hS_4 => ?_)
  refine lv_aload_n hx hb dX5_init_20 rfl (lvG hl rfl) ?_
  refine r_row hC hK hP_3 dX5_init_21 ?_
  refine lv_iconst (v := nI 1) hx hb dX5_init_24 (by decide) ?_
  refine lv_sipush (v := nI 1000) hx hb dX5_init_25 (by decide) ?_
  refine r_ast (k := 1) hC hK hP_3 hS_4 (by omega) dX5_init_28 (fun H_5 locs_6 hP_7 hS_8 => ?_)
  refine lv_aload_n hx hb dX5_init_29 rfl (lvG hl rfl) ?_
  refine r_row hC hK hP_7 dX5_init_30 ?_
  refine lv_iconst (v := nI 2) hx hb dX5_init_33 (by decide) ?_
  refine lv_sipush (v := nI 900) hx hb dX5_init_34 (by decide) ?_
  refine r_ast (k := 2) hC hK hP_7 hS_8 (by omega) dX5_init_37 (fun H_9 locs_10 hP_11 hS_12 => ?_)
  refine lv_aload_n hx hb dX5_init_38 rfl (lvG hl rfl) ?_
  refine r_row hC hK hP_11 dX5_init_39 ?_
  refine lv_iconst (v := nI 3) hx hb dX5_init_42 (by decide) ?_
  refine lv_bipush (v := nI 60) hx hb dX5_init_43 (by decide) ?_
  refine r_ast (k := 3) hC hK hP_11 hS_12 (by omega) dX5_init_45 (fun H_13 locs_14 hP_15 hS_16 => ?_)
  refine lv_aload_n hx hb dX5_init_46 rfl (lvG hl rfl) ?_
  refine r_row hC hK hP_15 dX5_init_47 ?_
  refine lv_iconst (v := nI 4) hx hb dX5_init_50 (by decide) ?_
  refine lv_sipush (v := nI 800) hx hb dX5_init_51 (by decide) ?_
  refine r_ast (k := 4) hC hK hP_15 hS_16 (by omega) dX5_init_54 (fun H_17 locs_18 hP_19 hS_20 => ?_)
  refine lv_aload_n hx hb dX5_init_55 rfl (lvG hl rfl) ?_
  refine r_row hC hK hP_19 dX5_init_56 ?_
  refine lv_iconst (v := nI 5) hx hb dX5_init_59 (by decide) ?_
  refine lv_bipush (v := nI 50) hx hb dX5_init_60 (by decide) ?_
  refine r_ast (k := 5) hC hK hP_19 hS_20 (by omega) dX5_init_62 (fun H_21 locs_22 hP_23 hS_24 => ?_)
  refine lv_aload_n hx hb dX5_init_63 rfl (lvG hl rfl) ?_
  refine r_row hC hK hP_23 dX5_init_64 ?_
  refine lv_bipush (v := nI 6) hx hb dX5_init_67 (by decide) ?_
  refine lv_bipush (v := nI 10) hx hb dX5_init_69 (by decide) ?_
  refine r_ast (k := 6) hC hK hP_23 hS_24 (by omega) dX5_init_71 (fun H_25 locs_26 hP_27 hS_28 => ?_)
  refine lv_aload_n hx hb dX5_init_72 rfl (lvG hl rfl) ?_
  refine r_row hC hK hP_27 dX5_init_73 ?_
  refine lv_bipush (v := nI 7) hx hb dX5_init_76 (by decide) ?_
  refine lv_iconst (v := nI 5) hx hb dX5_init_78 (by decide) ?_
  refine r_ast (k := 7) hC hK hP_27 hS_28 (by omega) dX5_init_79 (fun H_29 locs_30 hP_31 hS_32 => ?_)
  refine lv_iconst (v := nI 0) hx hb dX5_init_80 (by decide) ?_
  refine lv_istore_n (lv' := [(1, .int (nI 0)), (0, .ref o)]) hx hb dX5_init_81 rfl hl (by decide) rfl (fun ls hl => ?_)
  refine lv_iload_n hx hb dX5_init_82 rfl (lvG hl rfl) ?_
  refine lv_iconst (v := nI 2) hx hb dX5_init_83 (by decide) ?_
  refine n_icmp_ge (tgt := 137) hC dX5_init_84 (by decide) (by decide) (by decide) (fun c => absurd c (by decide)) (fun _ => ?_)
  refine lv_aload_n hx hb dX5_init_87 rfl (lvG hl rfl) ?_
  refine r_row hC hK hP_31 dX5_init_88 ?_
  refine lv_bipush (v := nI 8) hx hb dX5_init_91 (by decide) ?_
  refine lv_iconst (v := nI 4) hx hb dX5_init_93 (by decide) ?_
  refine lv_iload_n hx hb dX5_init_94 rfl (lvG hl rfl) ?_
  refine n_imulz (z := 0) hC dX5_init_95 rfl ?_
  refine n_iaddz (z := 8) hC dX5_init_96 rfl ?_
  refine lv_iconst (v := nI 1) hx hb dX5_init_97 (by decide) ?_
  refine n_iaddz (z := 9) hC dX5_init_98 rfl ?_
  refine lv_bipush (v := nI 8) hx hb dX5_init_99 (by decide) ?_
  refine r_ast (k := 9) hC hK hP_31 hS_32 (by omega) dX5_init_101 (fun H_33 locs_34 hP_35 hS_36 => ?_)
  refine lv_aload_n hx hb dX5_init_102 rfl (lvG hl rfl) ?_
  refine r_row hC hK hP_35 dX5_init_103 ?_
  refine lv_bipush (v := nI 8) hx hb dX5_init_106 (by decide) ?_
  refine lv_iconst (v := nI 4) hx hb dX5_init_108 (by decide) ?_
  refine lv_iload_n hx hb dX5_init_109 rfl (lvG hl rfl) ?_
  refine n_imulz (z := 0) hC dX5_init_110 rfl ?_
  refine n_iaddz (z := 8) hC dX5_init_111 rfl ?_
  refine lv_iconst (v := nI 2) hx hb dX5_init_112 (by decide) ?_
  refine n_iaddz (z := 10) hC dX5_init_113 rfl ?_
  refine lv_bipush (v := nI 18) hx hb dX5_init_114 (by decide) ?_
  refine r_ast (k := 10) hC hK hP_35 hS_36 (by omega) dX5_init_116 (fun H_37 locs_38 hP_39 hS_40 => ?_)
  refine lv_aload_n hx hb dX5_init_117 rfl (lvG hl rfl) ?_
  refine r_row hC hK hP_39 dX5_init_118 ?_
  refine lv_bipush (v := nI 8) hx hb dX5_init_121 (by decide) ?_
  refine lv_iconst (v := nI 4) hx hb dX5_init_123 (by decide) ?_
  refine lv_iload_n hx hb dX5_init_124 rfl (lvG hl rfl) ?_
  refine n_imulz (z := 0) hC dX5_init_125 rfl ?_
  refine n_iaddz (z := 8) hC dX5_init_126 rfl ?_
  refine lv_iconst (v := nI 3) hx hb dX5_init_127 (by decide) ?_
  refine n_iaddz (z := 11) hC dX5_init_128 rfl ?_
  refine lv_iconst (v := nI 4) hx hb dX5_init_129 (by decide) ?_
  refine r_ast (k := 11) hC hK hP_39 hS_40 (by omega) dX5_init_130 (fun H_41 locs_42 hP_43 hS_44 => ?_)
  refine n_iinc (lv' := [(1, .int (nI 1)), (0, .ref o)]) hC dX5_init_131 hl rfl (by decide) rfl (fun ls hl => ?_)
  refine lv_goto (tgt := 82) hx hb dX5_init_134 (by decide) ?_
  refine lv_iload_n hx hb dX5_init_82 rfl (lvG hl rfl) ?_
  refine lv_iconst (v := nI 2) hx hb dX5_init_83 (by decide) ?_
  refine n_icmp_ge (tgt := 137) hC dX5_init_84 (by decide) (by decide) (by decide) (fun c => absurd c (by decide)) (fun _ => ?_)
  refine lv_aload_n hx hb dX5_init_87 rfl (lvG hl rfl) ?_
  refine r_row hC hK hP_43 dX5_init_88 ?_
  refine lv_bipush (v := nI 8) hx hb dX5_init_91 (by decide) ?_
  refine lv_iconst (v := nI 4) hx hb dX5_init_93 (by decide) ?_
  refine lv_iload_n hx hb dX5_init_94 rfl (lvG hl rfl) ?_
  refine n_imulz (z := 4) hC dX5_init_95 rfl ?_
  refine n_iaddz (z := 12) hC dX5_init_96 rfl ?_
  refine lv_iconst (v := nI 1) hx hb dX5_init_97 (by decide) ?_
  refine n_iaddz (z := 13) hC dX5_init_98 rfl ?_
  refine lv_bipush (v := nI 8) hx hb dX5_init_99 (by decide) ?_
  refine r_ast (k := 13) hC hK hP_43 hS_44 (by omega) dX5_init_101 (fun H_45 locs_46 hP_47 hS_48 => ?_)
  refine lv_aload_n hx hb dX5_init_102 rfl (lvG hl rfl) ?_
  refine r_row hC hK hP_47 dX5_init_103 ?_
  refine lv_bipush (v := nI 8) hx hb dX5_init_106 (by decide) ?_
  refine lv_iconst (v := nI 4) hx hb dX5_init_108 (by decide) ?_
  refine lv_iload_n hx hb dX5_init_109 rfl (lvG hl rfl) ?_
  refine n_imulz (z := 4) hC dX5_init_110 rfl ?_
  refine n_iaddz (z := 12) hC dX5_init_111 rfl ?_
  refine lv_iconst (v := nI 2) hx hb dX5_init_112 (by decide) ?_
  refine n_iaddz (z := 14) hC dX5_init_113 rfl ?_
  refine lv_bipush (v := nI 18) hx hb dX5_init_114 (by decide) ?_
  refine r_ast (k := 14) hC hK hP_47 hS_48 (by omega) dX5_init_116 (fun H_49 locs_50 hP_51 hS_52 => ?_)
  refine lv_aload_n hx hb dX5_init_117 rfl (lvG hl rfl) ?_
  refine r_row hC hK hP_51 dX5_init_118 ?_
  refine lv_bipush (v := nI 8) hx hb dX5_init_121 (by decide) ?_
  refine lv_iconst (v := nI 4) hx hb dX5_init_123 (by decide) ?_
  refine lv_iload_n hx hb dX5_init_124 rfl (lvG hl rfl) ?_
  refine n_imulz (z := 4) hC dX5_init_125 rfl ?_
  refine n_iaddz (z := 12) hC dX5_init_126 rfl ?_
  refine lv_iconst (v := nI 3) hx hb dX5_init_127 (by decide) ?_
  refine n_iaddz (z := 15) hC dX5_init_128 rfl ?_
  refine lv_iconst (v := nI 4) hx hb dX5_init_129 (by decide) ?_
  refine r_ast (k := 15) hC hK hP_51 hS_52 (by omega) dX5_init_130 (fun H_53 locs_54 hP_55 hS_56 => ?_)
  refine n_iinc (lv' := [(1, .int (nI 2)), (0, .ref o)]) hC dX5_init_131 hl rfl (by decide) rfl (fun ls hl => ?_)
  refine lv_goto (tgt := 82) hx hb dX5_init_134 (by decide) ?_
  refine lv_iload_n hx hb dX5_init_82 rfl (lvG hl rfl) ?_
  refine lv_iconst (v := nI 2) hx hb dX5_init_83 (by decide) ?_
  refine n_icmp_ge (tgt := 137) hC dX5_init_84 (by decide) (by decide) (by decide) (fun _ => ?_) (fun c => absurd c (by decide))
  refine W.widen (k := 1) (n := 2552) (by omega) (by omega) ?_
  exact k_vretM hC hr hlk (va_S_mono hS_56 (fun a h => h.elim Or.inl (fun e => Or.inr (e ▸ hq1)))) dX5_init_137 (⟨q, hq1, hP_55⟩)
