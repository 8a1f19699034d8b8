abbrev s_A (f : Nat → Int32) (j : Nat) : Int32 := s_ar (s_pt f j) 20
def s_le (f : Nat → Int32) (en : Int32) (j : Nat) : Nat → Nat
  | 0 => 0
  | w + 1 => s_le f en j w + (if f (62 + 44 * w) = en ∧ s_A f w < s_A f j then 1 else 0)
def s_sa (f : Nat → Int32) (en : Int32) (j : Nat) : Nat → Nat
  | 0 => 0
  | w + 1 => s_sa f en j w + (if f (62 + 44 * w) = en ∧ s_A f w = s_A f j then 1 else 0)
theorem s_le_le (f : Nat → Int32) (en : Int32) (j : Nat) : ∀ w, s_le f en j w ≤ w
  | 0 => Nat.le_refl _
  | w + 1 => by
    have h := s_le_le f en j w
    unfold s_le
    split <;> omega
theorem s_sa_le (f : Nat → Int32) (en : Int32) (j : Nat) : ∀ w, s_sa f en j w ≤ w
  | 0 => Nat.le_refl _
  | w + 1 => by
    have h := s_sa_le f en j w
    unfold s_sa
    split <;> omega
abbrev s_inm (f : Nat → Int32) (en : Int32) (pl cn j : Nat) : Prop := nI (s_le f en j cn) ≤ nI pl ∧ nI pl ≤ nI (s_le f en j cn + s_sa f en j cn) - nI 1
def s_md (f : Nat → Int32) (en : Int32) (pl cn : Nat) : Nat → Int32
  | 0 => nI 0
  | j + 1 => if f (62 + 44 * j) = en ∧ s_inm f en pl cn j then s_A f j else s_md f en pl cn j
def s_mdn (f : Nat → Int32) (en : Int32) (cn : Nat) : Int32 := s_md f en ((s_mn f en cn - 1) / 2) cn cn
set_option maxHeartbeats 4000000 in
set_option maxRecDepth 100000 in
theorem c_X5_median (l : Launch) (g : kG) (o : Nat) (q : Nat) (f : Nat → Int32) (n : Nat) (en : Int32) (cn : Nat) (hc : f 61 = nI cn) (hcn : cn ≤ 10) (hm : 0 < s_mn f en cn) : PI l yX5_median cX5_median 9 (some .int) (rr 2 45) [.ref o, .int (en)] ((RP g o q f n)) g (s_mdn f en cn) := by
  refine kOf (by decide) (Nat.le_of_ble_eq_true rfl) (fun p e s m below meth c ls hC hr hlk hin hK hP hl => ?_)
  have hx := hC.1
  have hb := hC.2.1
  have hml := hC.2.2.1
  have hown := hC.2.2.2.1
  have hts := hC.2.2.2.2
  have hl : lv_has ls 9 [(0, .ref o), (1, .int (en))] := hl
  have hmn := s_mn_le f en cn
  refine lv_aload_n hx hb dX5_median_0 rfl (lvG hl rfl) ?_
  refine lv_iload_n hx hb dX5_median_1 rfl (lvG hl rfl) ?_
  refine k_callPI (k_goV (rest := []) hC hK (c_X5_many l g o q f n en cn hc hcn) L_X5_X5_many (⟨⟨Nat.le_of_ble_eq_true rfl, Nat.le_of_ble_eq_true rfl⟩, ⟨rfl, rfl⟩, ⟨Nat.le_of_ble_eq_true rfl, Nat.le_of_ble_eq_true rfl⟩⟩) (hP.recv hK) (hP) rfl hl.1 rfl (Nat.le_of_ble_eq_true rfl) dX5_median_2) ?_
  refine lv_iconst (v := nI 1) hx hb dX5_median_5 (by decide) ?_
  refine n_isub hC dX5_median_6 (by omega) ?_
  refine lv_iconst (v := nI 2) hx hb dX5_median_7 (by decide) ?_
  refine n_idiv hC dX5_median_8 (by omega) (by omega) (by omega) ?_
  refine lv_istore_n (lv' := [(2, .int (nI (((s_mn f en cn) - 1) / 2))), (0, .ref o), (1, .int (en))]) hx hb dX5_median_9 rfl hl (by decide) rfl (fun ls hl => ?_)
  refine lv_iconst (v := nI 0) hx hb dX5_median_10 (by decide) ?_
  refine lv_istore_n (lv' := [(3, .int (nI 0)), (2, .int (nI (((s_mn f en cn) - 1) / 2))), (0, .ref o), (1, .int (en))]) hx hb dX5_median_11 rfl hl (by decide) rfl (fun ls hl => ?_)
  refine lv_iconst (v := nI 0) hx hb dX5_median_12 (by decide) ?_
  refine lv_istore (lv' := [(4, .int (nI 0)), (3, .int (nI 0)), (2, .int (nI (((s_mn f en cn) - 1) / 2))), (0, .ref o), (1, .int (en))]) hx hb dX5_median_13 hl (by decide) rfl (fun ls hl => ?_)
  have key_1 : ∀ (k_2 : Nat) (j : Nat) (fd : Int32)  (hj : j ≤ cn) (hfd : fd = s_md f en ((s_mn f en cn - 1) / 2) cn j) (hk_k_2 : cn - j < k_2) (ls : Array Slot) (hl : lv_has ls 9 [(4, .int (nI j)), (3, .int (fd)), (2, .int (nI (((s_mn f en cn) - 1) / 2))), (0, .ref o), (1, .int (en))]), W p l e (rr 2 45) s m [.ref o, .int (en)].toArray below meth c s.heap [] 0 0 (MQ below (vp_Si (fun r => r = s_mdn f en cn)) [.ref o, .int (en)].toArray s 0 0 (fun _ => False)) (F0 m 15 ls ([])) := by
    intro k_2
    induction k_2 with
    | zero => intro j fd hj hfd hk_k_2 ls hl; exact absurd hk_k_2 (Nat.not_lt_zero _)
    | succ k_2 ih_3 =>
      intro j fd hj hfd hk_k_2 ls hl
      refine lv_iload hx hb dX5_median_15 (lvG hl rfl) ?_
      refine lv_aload_n hx hb dX5_median_17 rfl (lvG hl rfl) ?_
      refine r_row hC hK hP dX5_median_18 ?_
      refine lv_bipush (v := nI 61) hx hb dX5_median_21 (by decide) ?_
      refine r_ald (k := 61) hC hK hP (by omega) dX5_median_23 ?_
      rw [hc]
      refine n_icmp_ge (tgt := 197) hC dX5_median_24 (by omega) (by omega) (by decide) (fun zc24 => ?_) (fun zc24 => ?_)
      · refine lv_iload_n hx hb dX5_median_197 rfl (lvG hl rfl) ?_
        exact k_iret hC hr hlk dX5_median_198 (by unfold s_mdn; rw [hfd, show j = cn by omega])
      · refine lv_iconst (v := nI 0) hx hb dX5_median_27 (by decide) ?_
        refine lv_istore (lv' := [(5, .int (nI 0)), (4, .int (nI j)), (3, .int (fd)), (2, .int (nI (((s_mn f en cn) - 1) / 2))), (0, .ref o), (1, .int (en))]) hx hb dX5_median_28 hl (by decide) rfl (fun ls hl => ?_)
        refine lv_iconst (v := nI 0) hx hb dX5_median_30 (by decide) ?_
        refine lv_istore (lv' := [(6, .int (nI 0)), (5, .int (nI 0)), (4, .int (nI j)), (3, .int (fd)), (2, .int (nI (((s_mn f en cn) - 1) / 2))), (0, .ref o), (1, .int (en))]) hx hb dX5_median_31 hl (by decide) rfl (fun ls hl => ?_)
        refine lv_iconst (v := nI 0) hx hb dX5_median_33 (by decide) ?_
        refine lv_istore (lv' := [(7, .int (nI 0)), (6, .int (nI 0)), (5, .int (nI 0)), (4, .int (nI j)), (3, .int (fd)), (2, .int (nI (((s_mn f en cn) - 1) / 2))), (0, .ref o), (1, .int (en))]) hx hb dX5_median_34 hl (by decide) rfl (fun ls hl => ?_)
        have key_4 : ∀ (k_5 : Nat) (w : Nat) (sm : Nat) (ls1 : Nat)  (hw : w ≤ cn) (hls : ls1 = s_le f en j w) (hsm : sm = s_sa f en j w) (hk_k_5 : cn - w < k_5) (ls : Array Slot) (hl : lv_has ls 9 [(7, .int (nI w)), (6, .int (nI sm)), (5, .int (nI ls1)), (4, .int (nI j)), (3, .int (fd)), (2, .int (nI (((s_mn f en cn) - 1) / 2))), (0, .ref o), (1, .int (en))]), W p l e (rr 2 45) s m [.ref o, .int (en)].toArray below meth c s.heap [] 0 0 (MQ below (vp_Si (fun r => r = s_mdn f en cn)) [.ref o, .int (en)].toArray s 0 0 (fun _ => False)) (F0 m 36 ls ([])) := by
          intro k_5
          induction k_5 with
          | zero => intro w sm ls1 hw hls hsm hk_k_5 ls hl; exact absurd hk_k_5 (Nat.not_lt_zero _)
          | succ k_5 ih_6 =>
            intro w sm ls1 hw hls hsm hk_k_5 ls hl
            have hb1 : ls1 ≤ w := hls ▸ s_le_le f en j w
            have hb2 : sm ≤ w := hsm ▸ s_sa_le f en j w
            refine lv_iload hx hb dX5_median_36 (lvG hl rfl) ?_
            refine lv_aload_n hx hb dX5_median_38 rfl (lvG hl rfl) ?_
            refine r_row hC hK hP dX5_median_39 ?_
            refine lv_bipush (v := nI 61) hx hb dX5_median_42 (by decide) ?_
            refine r_ald (k := 61) hC hK hP (by omega) dX5_median_44 ?_
            rw [hc]
            refine n_icmp_ge (tgt := 147) hC dX5_median_45 (by omega) (by omega) (by decide) (fun zc45 => ?_) (fun zc45 => ?_)
            · refine lv_aload_n hx hb dX5_median_147 rfl (lvG hl rfl) ?_
              refine r_row hC hK hP dX5_median_148 ?_
              refine lv_iload hx hb dX5_median_151 (lvG hl rfl) ?_
              refine k_callPI (k_goS (rest := [.ref q]) hC hK (c_X5_endAt l g j) L_X5_X5_endAt (⟨⟨Nat.le_of_ble_eq_true rfl, Nat.le_of_ble_eq_true rfl⟩, ⟨rfl, rfl⟩, ⟨Nat.le_of_ble_eq_true rfl, Nat.le_of_ble_eq_true rfl⟩⟩) (trivial) rfl hl.1 rfl (Nat.le_of_ble_eq_true rfl) dX5_median_153) ?_
              refine r_ald (k := 62 + 44 * j) hC hK hP (by omega) dX5_median_156 ?_
              refine lv_iload_n hx hb dX5_median_157 rfl (lvG hl rfl) ?_
              refine lv_icmp_ne (tgt := 189) hx hb dX5_median_158 (by decide) (fun zc158 => ?_) (fun zc158 => ?_)
              · refine lv_iload_n hx hb dX5_median_189 rfl (lvG hl rfl) ?_
                refine lv_istore_n (lv' := [(3, .int (fd)), (7, .int (nI w)), (6, .int (nI sm)), (5, .int (nI ls1)), (4, .int (nI j)), (2, .int (nI (((s_mn f en cn) - 1) / 2))), (0, .ref o), (1, .int (en))]) hx hb dX5_median_190 rfl hl (by decide) rfl (fun ls hl => ?_)
                refine n_iinc (lv' := [(4, .int (nI (j + 1))), (3, .int (fd)), (7, .int (nI w)), (6, .int (nI sm)), (5, .int (nI ls1)), (2, .int (nI (((s_mn f en cn) - 1) / 2))), (0, .ref o), (1, .int (en))]) hC dX5_median_191 hl rfl (by decide) rfl (fun ls hl => ?_)
                refine lv_goto (tgt := 15) hx hb dX5_median_194 (by decide) ?_
                exact ih_3 (j + 1) fd  (by first | omega | assumption | rfl) (by unfold s_md; first | (rw [if_neg (fun q => zc158 q.1)]; exact hfd) | (rw [hls, hsm, show w = cn by omega] at zc174; first | (rw [if_pos ⟨zc158, zc174⟩]; done) | (rw [if_neg (fun q => zc174 q.2)]; exact hfd))) (by omega) ls (lv_sub hl [0, 1, 5, 6, 7] rfl)
              · refine lv_iload_n hx hb dX5_median_161 rfl (lvG hl rfl) ?_
                refine lv_iload hx hb dX5_median_162 (lvG hl rfl) ?_
                refine lv_iload hx hb dX5_median_164 (lvG hl rfl) ?_
                refine lv_iload hx hb dX5_median_166 (lvG hl rfl) ?_
                refine n_iadd hC dX5_median_168 ?_
                refine lv_iconst (v := nI 1) hx hb dX5_median_169 (by decide) ?_
                refine lv_isub hx hb dX5_median_170 ?_
                refine k_callPI (k_goS (rest := []) hC hK (c_X5_in l g (nI (((s_mn f en cn) - 1) / 2)) (nI ls1) ((nI (ls1 + sm)) - (nI 1))) L_X5_X5_in (⟨⟨Nat.le_of_ble_eq_true rfl, Nat.le_of_ble_eq_true rfl⟩, ⟨rfl, rfl⟩, ⟨Nat.le_of_ble_eq_true rfl, Nat.le_of_ble_eq_true rfl⟩⟩) (trivial) rfl hl.1 rfl (Nat.le_of_ble_eq_true rfl) dX5_median_171) ?_
                refine b_ifeq (tgt := 189) hC dX5_median_174 (by decide) (fun zc174 => ?_) (fun zc174 => ?_)
                · refine lv_iload_n hx hb dX5_median_189 rfl (lvG hl rfl) ?_
                  refine lv_istore_n (lv' := [(3, .int (fd)), (7, .int (nI w)), (6, .int (nI sm)), (5, .int (nI ls1)), (4, .int (nI j)), (2, .int (nI (((s_mn f en cn) - 1) / 2))), (0, .ref o), (1, .int (en))]) hx hb dX5_median_190 rfl hl (by decide) rfl (fun ls hl => ?_)
                  refine n_iinc (lv' := [(4, .int (nI (j + 1))), (3, .int (fd)), (7, .int (nI w)), (6, .int (nI sm)), (5, .int (nI ls1)), (2, .int (nI (((s_mn f en cn) - 1) / 2))), (0, .ref o), (1, .int (en))]) hC dX5_median_191 hl rfl (by decide) rfl (fun ls hl => ?_)
                  refine lv_goto (tgt := 15) hx hb dX5_median_194 (by decide) ?_
                  exact ih_3 (j + 1) fd  (by first | omega | assumption | rfl) (by unfold s_md; first | (rw [if_neg (fun q => zc158 q.1)]; exact hfd) | (rw [hls, hsm, show w = cn by omega] at zc174; first | (rw [if_pos ⟨zc158, zc174⟩]; done) | (rw [if_neg (fun q => zc174 q.2)]; exact hfd))) (by omega) ls (lv_sub hl [0, 1, 5, 6, 7] rfl)
                · refine lv_aload_n hx hb dX5_median_177 rfl (lvG hl rfl) ?_
                  refine lv_iload hx hb dX5_median_178 (lvG hl rfl) ?_
                  refine k_callPI (k_goS (rest := [.ref o]) hC hK (c_X5_at l g j) L_X5_X5_at (⟨⟨Nat.le_of_ble_eq_true rfl, Nat.le_of_ble_eq_true rfl⟩, ⟨rfl, rfl⟩, ⟨Nat.le_of_ble_eq_true rfl, Nat.le_of_ble_eq_true rfl⟩⟩) (trivial) rfl hl.1 rfl (Nat.le_of_ble_eq_true rfl) dX5_median_180) ?_
                  refine k_callPI (k_goV (rest := []) hC hK (c_X5_areaAt l g o q f n (62 + 44 * j + 2) (by first | assumption | omega)) L_X5_X5_areaAt (⟨⟨Nat.le_of_ble_eq_true rfl, Nat.le_of_ble_eq_true rfl⟩, ⟨rfl, rfl⟩, ⟨Nat.le_of_ble_eq_true rfl, Nat.le_of_ble_eq_true rfl⟩⟩) (hP.recv hK) (hP) rfl hl.1 rfl (Nat.le_of_ble_eq_true rfl) dX5_median_183) ?_
                  refine lv_goto (tgt := 190) hx hb dX5_median_186 (by decide) ?_
                  refine lv_istore_n (lv' := [(3, .int (s_ar (fun k => f ((62 + 44 * j + 2) + k)) 20)), (7, .int (nI w)), (6, .int (nI sm)), (5, .int (nI ls1)), (4, .int (nI j)), (2, .int (nI (((s_mn f en cn) - 1) / 2))), (0, .ref o), (1, .int (en))]) hx hb dX5_median_190 rfl hl (by decide) rfl (fun ls hl => ?_)
                  refine n_iinc (lv' := [(4, .int (nI (j + 1))), (3, .int (s_ar (fun k => f ((62 + 44 * j + 2) + k)) 20)), (7, .int (nI w)), (6, .int (nI sm)), (5, .int (nI ls1)), (2, .int (nI (((s_mn f en cn) - 1) / 2))), (0, .ref o), (1, .int (en))]) hC dX5_median_191 hl rfl (by decide) rfl (fun ls hl => ?_)
                  refine lv_goto (tgt := 15) hx hb dX5_median_194 (by decide) ?_
                  exact ih_3 (j + 1) (s_ar (fun k => f ((62 + 44 * j + 2) + k)) 20)  (by first | omega | assumption | rfl) (by unfold s_md; first | (rw [if_neg (fun q => zc158 q.1)]; exact hfd) | (rw [hls, hsm, show w = cn by omega] at zc174; first | (rw [if_pos ⟨zc158, zc174⟩]; done) | (rw [if_neg (fun q => zc174 q.2)]; exact hfd))) (by omega) ls (lv_sub hl [0, 1, 5, 6, 7] rfl)
            · refine lv_aload_n hx hb dX5_median_48 rfl (lvG hl rfl) ?_
              refine r_row hC hK hP dX5_median_49 ?_
              refine lv_iload hx hb dX5_median_52 (lvG hl rfl) ?_
              refine k_callPI (k_goS (rest := [.ref q]) hC hK (c_X5_endAt l g w) L_X5_X5_endAt (⟨⟨Nat.le_of_ble_eq_true rfl, Nat.le_of_ble_eq_true rfl⟩, ⟨rfl, rfl⟩, ⟨Nat.le_of_ble_eq_true rfl, Nat.le_of_ble_eq_true rfl⟩⟩) (trivial) rfl hl.1 rfl (Nat.le_of_ble_eq_true rfl) dX5_median_54) ?_
              refine r_ald (k := 62 + 44 * w) hC hK hP (by omega) dX5_median_57 ?_
              refine lv_iload_n hx hb dX5_median_58 rfl (lvG hl rfl) ?_
              refine lv_icmp_ne (tgt := 66) hx hb dX5_median_59 (by decide) (fun zc59 => ?_) (fun zc59 => ?_)
              · refine lv_iconst (v := nI 0) hx hb dX5_median_66 (by decide) ?_
                refine lv_istore (lv' := [(8, .int (nI 0)), (7, .int (nI w)), (6, .int (nI sm)), (5, .int (nI ls1)), (4, .int (nI j)), (3, .int (fd)), (2, .int (nI (((s_mn f en cn) - 1) / 2))), (0, .ref o), (1, .int (en))]) hx hb dX5_median_67 hl (by decide) rfl (fun ls hl => ?_)
                refine lv_iload hx hb dX5_median_69 (lvG hl rfl) ?_
                refine lv_iload hx hb dX5_median_71 (lvG hl rfl) ?_
                refine n_if_eq (tgt := 101) hC dX5_median_73 (by decide) (by decide) (fun _ => ?_) (fun c => absurd c (by decide))
                refine lv_iconst (v := nI 0) hx hb dX5_median_101 (by decide) ?_
                refine n_iadd hC dX5_median_102 ?_
                refine lv_istore (lv' := [(5, .int (nI (ls1 + 0))), (8, .int (nI 0)), (7, .int (nI w)), (6, .int (nI sm)), (4, .int (nI j)), (3, .int (fd)), (2, .int (nI (((s_mn f en cn) - 1) / 2))), (0, .ref o), (1, .int (en))]) hx hb dX5_median_103 hl (by decide) rfl (fun ls hl => ?_)
                refine lv_iload hx hb dX5_median_105 (lvG hl rfl) ?_
                refine lv_iload hx hb dX5_median_107 (lvG hl rfl) ?_
                refine n_if_eq (tgt := 137) hC dX5_median_109 (by decide) (by decide) (fun _ => ?_) (fun c => absurd c (by decide))
                refine lv_iconst (v := nI 0) hx hb dX5_median_137 (by decide) ?_
                refine n_iadd hC dX5_median_138 ?_
                refine lv_istore (lv' := [(6, .int (nI (sm + 0))), (5, .int (nI (ls1 + 0))), (8, .int (nI 0)), (7, .int (nI w)), (4, .int (nI j)), (3, .int (fd)), (2, .int (nI (((s_mn f en cn) - 1) / 2))), (0, .ref o), (1, .int (en))]) hx hb dX5_median_139 hl (by decide) rfl (fun ls hl => ?_)
                refine n_iinc (lv' := [(7, .int (nI (w + 1))), (6, .int (nI (sm + 0))), (5, .int (nI (ls1 + 0))), (8, .int (nI 0)), (4, .int (nI j)), (3, .int (fd)), (2, .int (nI (((s_mn f en cn) - 1) / 2))), (0, .ref o), (1, .int (en))]) hC dX5_median_141 hl rfl (by decide) rfl (fun ls hl => ?_)
                refine lv_goto (tgt := 36) hx hb dX5_median_144 (by decide) ?_
                exact ih_6 (w + 1) (sm + 0) (ls1 + 0)  (by first | omega | assumption | rfl) (by unfold s_le; rw [← hls]; first | (rw [if_pos ⟨zc59, Int32.not_le.mp zc94⟩]; done) | (rw [if_neg (fun q => absurd q.2 (Int32.not_lt.mpr zc94))]; done) | (rw [if_neg (fun q => zc59 q.1)]; done)) (by unfold s_sa; rw [← hsm]; first | (rw [if_pos ⟨zc59, zc130⟩]; done) | (rw [if_neg (fun q => zc130 q.2)]; done) | (rw [if_neg (fun q => zc59 q.1)]; done)) (by omega) ls (lv_sub hl [0, 1, 2, 4, 5, 6, 7, 8] rfl)
              · refine lv_iconst (v := nI 1) hx hb dX5_median_62 (by decide) ?_
                refine lv_goto (tgt := 67) hx hb dX5_median_63 (by decide) ?_
                refine lv_istore (lv' := [(8, .int (nI 1)), (7, .int (nI w)), (6, .int (nI sm)), (5, .int (nI ls1)), (4, .int (nI j)), (3, .int (fd)), (2, .int (nI (((s_mn f en cn) - 1) / 2))), (0, .ref o), (1, .int (en))]) hx hb dX5_median_67 hl (by decide) rfl (fun ls hl => ?_)
                refine lv_iload hx hb dX5_median_69 (lvG hl rfl) ?_
                refine lv_iload hx hb dX5_median_71 (lvG hl rfl) ?_
                refine n_if_eq (tgt := 101) hC dX5_median_73 (by decide) (by decide) (fun c => absurd c (by decide)) (fun _ => ?_)
                refine lv_aload_n hx hb dX5_median_76 rfl (lvG hl rfl) ?_
                refine lv_iload hx hb dX5_median_77 (lvG hl rfl) ?_
                refine k_callPI (k_goS (rest := [.ref o, .int (nI ls1)]) hC hK (c_X5_at l g w) L_X5_X5_at (⟨⟨Nat.le_of_ble_eq_true rfl, Nat.le_of_ble_eq_true rfl⟩, ⟨rfl, rfl⟩, ⟨Nat.le_of_ble_eq_true rfl, Nat.le_of_ble_eq_true rfl⟩⟩) (trivial) rfl hl.1 rfl (Nat.le_of_ble_eq_true rfl) dX5_median_79) ?_
                refine k_callPI (k_goV (rest := [.int (nI ls1)]) hC hK (c_X5_areaAt l g o q f n (62 + 44 * w + 2) (by first | assumption | omega)) L_X5_X5_areaAt (⟨⟨Nat.le_of_ble_eq_true rfl, Nat.le_of_ble_eq_true rfl⟩, ⟨rfl, rfl⟩, ⟨Nat.le_of_ble_eq_true rfl, Nat.le_of_ble_eq_true rfl⟩⟩) (hP.recv hK) (hP) rfl hl.1 rfl (Nat.le_of_ble_eq_true rfl) dX5_median_82) ?_
                refine lv_aload_n hx hb dX5_median_85 rfl (lvG hl rfl) ?_
                refine lv_iload hx hb dX5_median_86 (lvG hl rfl) ?_
                refine k_callPI (k_goS (rest := [.ref o, .int (s_ar (fun k => f ((62 + 44 * w + 2) + k)) 20), .int (nI ls1)]) hC hK (c_X5_at l g j) L_X5_X5_at (⟨⟨Nat.le_of_ble_eq_true rfl, Nat.le_of_ble_eq_true rfl⟩, ⟨rfl, rfl⟩, ⟨Nat.le_of_ble_eq_true rfl, Nat.le_of_ble_eq_true rfl⟩⟩) (trivial) rfl hl.1 rfl (Nat.le_of_ble_eq_true rfl) dX5_median_88) ?_
                refine k_callPI (k_goV (rest := [.int (s_ar (fun k => f ((62 + 44 * w + 2) + k)) 20), .int (nI ls1)]) hC hK (c_X5_areaAt l g o q f n (62 + 44 * j + 2) (by first | assumption | omega)) L_X5_X5_areaAt (⟨⟨Nat.le_of_ble_eq_true rfl, Nat.le_of_ble_eq_true rfl⟩, ⟨rfl, rfl⟩, ⟨Nat.le_of_ble_eq_true rfl, Nat.le_of_ble_eq_true rfl⟩⟩) (hP.recv hK) (hP) rfl hl.1 rfl (Nat.le_of_ble_eq_true rfl) dX5_median_91) ?_
                refine lv_icmp_ge (tgt := 101) hx hb dX5_median_94 (by decide) (fun zc94 => ?_) (fun zc94 => ?_)
                · refine lv_iconst (v := nI 0) hx hb dX5_median_101 (by decide) ?_
                  refine n_iadd hC dX5_median_102 ?_
                  refine lv_istore (lv' := [(5, .int (nI (ls1 + 0))), (8, .int (nI 1)), (7, .int (nI w)), (6, .int (nI sm)), (4, .int (nI j)), (3, .int (fd)), (2, .int (nI (((s_mn f en cn) - 1) / 2))), (0, .ref o), (1, .int (en))]) hx hb dX5_median_103 hl (by decide) rfl (fun ls hl => ?_)
                  refine lv_iload hx hb dX5_median_105 (lvG hl rfl) ?_
                  refine lv_iload hx hb dX5_median_107 (lvG hl rfl) ?_
                  refine n_if_eq (tgt := 137) hC dX5_median_109 (by decide) (by decide) (fun c => absurd c (by decide)) (fun _ => ?_)
                  refine lv_aload_n hx hb dX5_median_112 rfl (lvG hl rfl) ?_
                  refine lv_iload hx hb dX5_median_113 (lvG hl rfl) ?_
                  refine k_callPI (k_goS (rest := [.ref o, .int (nI sm)]) hC hK (c_X5_at l g w) L_X5_X5_at (⟨⟨Nat.le_of_ble_eq_true rfl, Nat.le_of_ble_eq_true rfl⟩, ⟨rfl, rfl⟩, ⟨Nat.le_of_ble_eq_true rfl, Nat.le_of_ble_eq_true rfl⟩⟩) (trivial) rfl hl.1 rfl (Nat.le_of_ble_eq_true rfl) dX5_median_115) ?_
                  refine k_callPI (k_goV (rest := [.int (nI sm)]) hC hK (c_X5_areaAt l g o q f n (62 + 44 * w + 2) (by first | assumption | omega)) L_X5_X5_areaAt (⟨⟨Nat.le_of_ble_eq_true rfl, Nat.le_of_ble_eq_true rfl⟩, ⟨rfl, rfl⟩, ⟨Nat.le_of_ble_eq_true rfl, Nat.le_of_ble_eq_true rfl⟩⟩) (hP.recv hK) (hP) rfl hl.1 rfl (Nat.le_of_ble_eq_true rfl) dX5_median_118) ?_
                  refine lv_aload_n hx hb dX5_median_121 rfl (lvG hl rfl) ?_
                  refine lv_iload hx hb dX5_median_122 (lvG hl rfl) ?_
                  refine k_callPI (k_goS (rest := [.ref o, .int (s_ar (fun k => f ((62 + 44 * w + 2) + k)) 20), .int (nI sm)]) hC hK (c_X5_at l g j) L_X5_X5_at (⟨⟨Nat.le_of_ble_eq_true rfl, Nat.le_of_ble_eq_true rfl⟩, ⟨rfl, rfl⟩, ⟨Nat.le_of_ble_eq_true rfl, Nat.le_of_ble_eq_true rfl⟩⟩) (trivial) rfl hl.1 rfl (Nat.le_of_ble_eq_true rfl) dX5_median_124) ?_
                  refine k_callPI (k_goV (rest := [.int (s_ar (fun k => f ((62 + 44 * w + 2) + k)) 20), .int (nI sm)]) hC hK (c_X5_areaAt l g o q f n (62 + 44 * j + 2) (by first | assumption | omega)) L_X5_X5_areaAt (⟨⟨Nat.le_of_ble_eq_true rfl, Nat.le_of_ble_eq_true rfl⟩, ⟨rfl, rfl⟩, ⟨Nat.le_of_ble_eq_true rfl, Nat.le_of_ble_eq_true rfl⟩⟩) (hP.recv hK) (hP) rfl hl.1 rfl (Nat.le_of_ble_eq_true rfl) dX5_median_127) ?_
                  refine lv_icmp_ne (tgt := 137) hx hb dX5_median_130 (by decide) (fun zc130 => ?_) (fun zc130 => ?_)
                  · refine lv_iconst (v := nI 0) hx hb dX5_median_137 (by decide) ?_
                    refine n_iadd hC dX5_median_138 ?_
                    refine lv_istore (lv' := [(6, .int (nI (sm + 0))), (5, .int (nI (ls1 + 0))), (8, .int (nI 1)), (7, .int (nI w)), (4, .int (nI j)), (3, .int (fd)), (2, .int (nI (((s_mn f en cn) - 1) / 2))), (0, .ref o), (1, .int (en))]) hx hb dX5_median_139 hl (by decide) rfl (fun ls hl => ?_)
                    refine n_iinc (lv' := [(7, .int (nI (w + 1))), (6, .int (nI (sm + 0))), (5, .int (nI (ls1 + 0))), (8, .int (nI 1)), (4, .int (nI j)), (3, .int (fd)), (2, .int (nI (((s_mn f en cn) - 1) / 2))), (0, .ref o), (1, .int (en))]) hC dX5_median_141 hl rfl (by decide) rfl (fun ls hl => ?_)
                    refine lv_goto (tgt := 36) hx hb dX5_median_144 (by decide) ?_
                    exact ih_6 (w + 1) (sm + 0) (ls1 + 0)  (by first | omega | assumption | rfl) (by unfold s_le; rw [← hls]; first | (rw [if_pos ⟨zc59, Int32.not_le.mp zc94⟩]; done) | (rw [if_neg (fun q => absurd q.2 (Int32.not_lt.mpr zc94))]; done) | (rw [if_neg (fun q => zc59 q.1)]; done)) (by unfold s_sa; rw [← hsm]; first | (rw [if_pos ⟨zc59, zc130⟩]; done) | (rw [if_neg (fun q => zc130 q.2)]; done) | (rw [if_neg (fun q => zc59 q.1)]; done)) (by omega) ls (lv_sub hl [0, 1, 2, 4, 5, 6, 7, 8] rfl)
                  · refine lv_iconst (v := nI 1) hx hb dX5_median_133 (by decide) ?_
                    refine lv_goto (tgt := 138) hx hb dX5_median_134 (by decide) ?_
                    refine n_iadd hC dX5_median_138 ?_
                    refine lv_istore (lv' := [(6, .int (nI (sm + 1))), (5, .int (nI (ls1 + 0))), (8, .int (nI 1)), (7, .int (nI w)), (4, .int (nI j)), (3, .int (fd)), (2, .int (nI (((s_mn f en cn) - 1) / 2))), (0, .ref o), (1, .int (en))]) hx hb dX5_median_139 hl (by decide) rfl (fun ls hl => ?_)
                    refine n_iinc (lv' := [(7, .int (nI (w + 1))), (6, .int (nI (sm + 1))), (5, .int (nI (ls1 + 0))), (8, .int (nI 1)), (4, .int (nI j)), (3, .int (fd)), (2, .int (nI (((s_mn f en cn) - 1) / 2))), (0, .ref o), (1, .int (en))]) hC dX5_median_141 hl rfl (by decide) rfl (fun ls hl => ?_)
                    refine lv_goto (tgt := 36) hx hb dX5_median_144 (by decide) ?_
                    exact ih_6 (w + 1) (sm + 1) (ls1 + 0)  (by first | omega | assumption | rfl) (by unfold s_le; rw [← hls]; first | (rw [if_pos ⟨zc59, Int32.not_le.mp zc94⟩]; done) | (rw [if_neg (fun q => absurd q.2 (Int32.not_lt.mpr zc94))]; done) | (rw [if_neg (fun q => zc59 q.1)]; done)) (by unfold s_sa; rw [← hsm]; first | (rw [if_pos ⟨zc59, zc130⟩]; done) | (rw [if_neg (fun q => zc130 q.2)]; done) | (rw [if_neg (fun q => zc59 q.1)]; done)) (by omega) ls (lv_sub hl [0, 1, 2, 4, 5, 6, 7, 8] rfl)
                · refine lv_iconst (v := nI 1) hx hb dX5_median_97 (by decide) ?_
                  refine lv_goto (tgt := 102) hx hb dX5_median_98 (by decide) ?_
                  refine n_iadd hC dX5_median_102 ?_
                  refine lv_istore (lv' := [(5, .int (nI (ls1 + 1))), (8, .int (nI 1)), (7, .int (nI w)), (6, .int (nI sm)), (4, .int (nI j)), (3, .int (fd)), (2, .int (nI (((s_mn f en cn) - 1) / 2))), (0, .ref o), (1, .int (en))]) hx hb dX5_median_103 hl (by decide) rfl (fun ls hl => ?_)
                  refine lv_iload hx hb dX5_median_105 (lvG hl rfl) ?_
                  refine lv_iload hx hb dX5_median_107 (lvG hl rfl) ?_
                  refine n_if_eq (tgt := 137) hC dX5_median_109 (by decide) (by decide) (fun c => absurd c (by decide)) (fun _ => ?_)
                  refine lv_aload_n hx hb dX5_median_112 rfl (lvG hl rfl) ?_
                  refine lv_iload hx hb dX5_median_113 (lvG hl rfl) ?_
                  refine k_callPI (k_goS (rest := [.ref o, .int (nI sm)]) hC hK (c_X5_at l g w) L_X5_X5_at (⟨⟨Nat.le_of_ble_eq_true rfl, Nat.le_of_ble_eq_true rfl⟩, ⟨rfl, rfl⟩, ⟨Nat.le_of_ble_eq_true rfl, Nat.le_of_ble_eq_true rfl⟩⟩) (trivial) rfl hl.1 rfl (Nat.le_of_ble_eq_true rfl) dX5_median_115) ?_
                  refine k_callPI (k_goV (rest := [.int (nI sm)]) hC hK (c_X5_areaAt l g o q f n (62 + 44 * w + 2) (by first | assumption | omega)) L_X5_X5_areaAt (⟨⟨Nat.le_of_ble_eq_true rfl, Nat.le_of_ble_eq_true rfl⟩, ⟨rfl, rfl⟩, ⟨Nat.le_of_ble_eq_true rfl, Nat.le_of_ble_eq_true rfl⟩⟩) (hP.recv hK) (hP) rfl hl.1 rfl (Nat.le_of_ble_eq_true rfl) dX5_median_118) ?_
                  refine lv_aload_n hx hb dX5_median_121 rfl (lvG hl rfl) ?_
                  refine lv_iload hx hb dX5_median_122 (lvG hl rfl) ?_
                  refine k_callPI (k_goS (rest := [.ref o, .int (s_ar (fun k => f ((62 + 44 * w + 2) + k)) 20), .int (nI sm)]) hC hK (c_X5_at l g j) L_X5_X5_at (⟨⟨Nat.le_of_ble_eq_true rfl, Nat.le_of_ble_eq_true rfl⟩, ⟨rfl, rfl⟩, ⟨Nat.le_of_ble_eq_true rfl, Nat.le_of_ble_eq_true rfl⟩⟩) (trivial) rfl hl.1 rfl (Nat.le_of_ble_eq_true rfl) dX5_median_124) ?_
                  refine k_callPI (k_goV (rest := [.int (s_ar (fun k => f ((62 + 44 * w + 2) + k)) 20), .int (nI sm)]) hC hK (c_X5_areaAt l g o q f n (62 + 44 * j + 2) (by first | assumption | omega)) L_X5_X5_areaAt (⟨⟨Nat.le_of_ble_eq_true rfl, Nat.le_of_ble_eq_true rfl⟩, ⟨rfl, rfl⟩, ⟨Nat.le_of_ble_eq_true rfl, Nat.le_of_ble_eq_true rfl⟩⟩) (hP.recv hK) (hP) rfl hl.1 rfl (Nat.le_of_ble_eq_true rfl) dX5_median_127) ?_
                  refine lv_icmp_ne (tgt := 137) hx hb dX5_median_130 (by decide) (fun zc130 => ?_) (fun zc130 => ?_)
                  · refine lv_iconst (v := nI 0) hx hb dX5_median_137 (by decide) ?_
                    refine n_iadd hC dX5_median_138 ?_
                    refine lv_istore (lv' := [(6, .int (nI (sm + 0))), (5, .int (nI (ls1 + 1))), (8, .int (nI 1)), (7, .int (nI w)), (4, .int (nI j)), (3, .int (fd)), (2, .int (nI (((s_mn f en cn) - 1) / 2))), (0, .ref o), (1, .int (en))]) hx hb dX5_median_139 hl (by decide) rfl (fun ls hl => ?_)
                    refine n_iinc (lv' := [(7, .int (nI (w + 1))), (6, .int (nI (sm + 0))), (5, .int (nI (ls1 + 1))), (8, .int (nI 1)), (4, .int (nI j)), (3, .int (fd)), (2, .int (nI (((s_mn f en cn) - 1) / 2))), (0, .ref o), (1, .int (en))]) hC dX5_median_141 hl rfl (by decide) rfl (fun ls hl => ?_)
                    refine lv_goto (tgt := 36) hx hb dX5_median_144 (by decide) ?_
                    exact ih_6 (w + 1) (sm + 0) (ls1 + 1)  (by first | omega | assumption | rfl) (by unfold s_le; rw [← hls]; first | (rw [if_pos ⟨zc59, Int32.not_le.mp zc94⟩]; done) | (rw [if_neg (fun q => absurd q.2 (Int32.not_lt.mpr zc94))]; done) | (rw [if_neg (fun q => zc59 q.1)]; done)) (by unfold s_sa; rw [← hsm]; first | (rw [if_pos ⟨zc59, zc130⟩]; done) | (rw [if_neg (fun q => zc130 q.2)]; done) | (rw [if_neg (fun q => zc59 q.1)]; done)) (by omega) ls (lv_sub hl [0, 1, 2, 4, 5, 6, 7, 8] rfl)
                  · refine lv_iconst (v := nI 1) hx hb dX5_median_133 (by decide) ?_
                    refine lv_goto (tgt := 138) hx hb dX5_median_134 (by decide) ?_
                    refine n_iadd hC dX5_median_138 ?_
                    refine lv_istore (lv' := [(6, .int (nI (sm + 1))), (5, .int (nI (ls1 + 1))), (8, .int (nI 1)), (7, .int (nI w)), (4, .int (nI j)), (3, .int (fd)), (2, .int (nI (((s_mn f en cn) - 1) / 2))), (0, .ref o), (1, .int (en))]) hx hb dX5_median_139 hl (by decide) rfl (fun ls hl => ?_)
                    refine n_iinc (lv' := [(7, .int (nI (w + 1))), (6, .int (nI (sm + 1))), (5, .int (nI (ls1 + 1))), (8, .int (nI 1)), (4, .int (nI j)), (3, .int (fd)), (2, .int (nI (((s_mn f en cn) - 1) / 2))), (0, .ref o), (1, .int (en))]) hC dX5_median_141 hl rfl (by decide) rfl (fun ls hl => ?_)
                    refine lv_goto (tgt := 36) hx hb dX5_median_144 (by decide) ?_
                    exact ih_6 (w + 1) (sm + 1) (ls1 + 1)  (by first | omega | assumption | rfl) (by unfold s_le; rw [← hls]; first | (rw [if_pos ⟨zc59, Int32.not_le.mp zc94⟩]; done) | (rw [if_neg (fun q => absurd q.2 (Int32.not_lt.mpr zc94))]; done) | (rw [if_neg (fun q => zc59 q.1)]; done)) (by unfold s_sa; rw [← hsm]; first | (rw [if_pos ⟨zc59, zc130⟩]; done) | (rw [if_neg (fun q => zc130 q.2)]; done) | (rw [if_neg (fun q => zc59 q.1)]; done)) (by omega) ls (lv_sub hl [0, 1, 2, 4, 5, 6, 7, 8] rfl)
        exact key_4 ((cn - 0) + 1) 0 0 0  (by first | rfl | omega | assumption) (by first | rfl | omega | assumption) (by first | rfl | omega | assumption) (Nat.lt_succ_self _) ls (lv_sub hl [0, 1, 2, 3, 4, 5, 6, 7] rfl)
  exact key_1 ((cn - 0) + 1) 0 (nI 0)  (by first | rfl | omega | assumption) (by first | rfl | omega | assumption) (Nat.lt_succ_self _) ls (lv_sub hl [0, 1, 2, 3, 4] rfl)
