def s_mn (f : Nat → Int32) (en : Int32) : Nat → Nat
  | 0 => 0
  | k + 1 => s_mn f en k + (if f (62 + 44 * k) = en then 1 else 0)
theorem s_mn_le (f : Nat → Int32) (en : Int32) : ∀ k, s_mn f en k ≤ k
  | 0 => Nat.le_refl _
  | k + 1 => by
    have h := s_mn_le f en k
    unfold s_mn
    split <;> omega
def s_sc (f : Nat → Int32) (en : Int32) (t : Nat) : Nat → Int32
  | 0 => nI 0
  | k + 1 => s_sc f en t k + (if f (62 + 44 * k) = en then s_pt f k t else nI 0)
def s_mv (f : Nat → Int32) (en : Int32) (cn : Nat) (t : Nat) : Int32 := s_sc f en t cn / nI (s_mn f en cn)
def s_sp (f : Nat → Int32) (en : Int32) : Nat → Int64
  | 0 => lN 0
  | k + 1 => s_sp f en k + (if f (62 + 44 * k) = en then s_pc f k else lN 0)
def s_mp (f : Nat → Int32) (en : Int32) (cn : Nat) : Int64 := s_quo (s_sp f en cn) (nI (s_mn f en cn)).toInt64
def s_im (f : Nat → Int32) (cn : Nat) : Int32 := if s_mn f (nI 0) cn = 0 ∨ s_mn f (nI 1) cn = 0 then cNON else if s_mp f (nI 0) cn < lN 0 ∨ s_mp f (nI 1) cn < lN 0 ∨ s_mp f (nI 0) cn + s_mp f (nI 1) cn = lN 0 then cNON else ((if s_mp f (nI 0) cn < s_mp f (nI 1) cn then s_mp f (nI 1) cn - s_mp f (nI 0) cn else s_mp f (nI 0) cn - s_mp f (nI 1) cn) * (1000 : Int64) / (s_mp f (nI 0) cn + s_mp f (nI 1) cn)).toInt32
set_option maxHeartbeats 4000000 in
set_option maxRecDepth 100000 in
theorem c_X5_many (l : Launch) (g : kG) (o : Nat) (q : Nat) (f : Nat → Int32) (n : Nat) (en : Int32) (cn : Nat) (hc : f 61 = nI cn) (hcn : cn ≤ 10) : PI l yX5_many cX5_many 4 (some .int) (rr 1 20) [.ref o, .int (en)] ((RP g o q f n)) g (nI (s_mn f en cn)) := by
  refine kOf (by decide) (Nat.le_of_ble_eq_true rfl) (fun p e s m below meth c ls hC hr hlk hin hK hP hl => ?_)
  have hx := hC.1
  have hb := hC.2.1
  have hml := hC.2.2.1
  have hown := hC.2.2.2.1
  have hts := hC.2.2.2.2
  have hl : lv_has ls 4 [(0, .ref o), (1, .int (en))] := hl
  refine lv_iconst (v := nI 0) hx hb dX5_many_0 (by decide) ?_
  refine lv_istore_n (lv' := [(2, .int (nI 0)), (0, .ref o), (1, .int (en))]) hx hb dX5_many_1 rfl hl (by decide) rfl (fun ls hl => ?_)
  refine lv_iconst (v := nI 0) hx hb dX5_many_2 (by decide) ?_
  refine lv_istore_n (lv' := [(3, .int (nI 0)), (2, .int (nI 0)), (0, .ref o), (1, .int (en))]) hx hb dX5_many_3 rfl hl (by decide) rfl (fun ls hl => ?_)
  have key_1 : ∀ (k_2 : Nat) (i : Nat) (ct : Nat)  (hi : i ≤ cn) (hs : ct = s_mn f en i) (hk_k_2 : cn - i < k_2) (ls : Array Slot) (hl : lv_has ls 4 [(3, .int (nI i)), (2, .int (nI ct)), (0, .ref o), (1, .int (en))]), W p l e (rr 1 20) s m [.ref o, .int (en)].toArray below meth c s.heap [] 0 0 (MQ below (vp_Si (fun r => r = nI (s_mn f en cn))) [.ref o, .int (en)].toArray s 0 0 (fun _ => False)) (F0 m 4 ls ([])) := by
    intro k_2
    induction k_2 with
    | zero => intro i ct hi hs hk_k_2 ls hl; exact absurd hk_k_2 (Nat.not_lt_zero _)
    | succ k_2 ih_3 =>
      intro i ct hi hs hk_k_2 ls hl
      refine lv_iload_n hx hb dX5_many_4 rfl (lvG hl rfl) ?_
      refine lv_aload_n hx hb dX5_many_5 rfl (lvG hl rfl) ?_
      refine r_row hC hK hP dX5_many_6 ?_
      refine lv_bipush (v := nI 61) hx hb dX5_many_9 (by decide) ?_
      refine r_ald (k := 61) hC hK hP (by omega) dX5_many_11 ?_
      rw [hc]
      refine n_icmp_ge (tgt := 42) hC dX5_many_12 (by omega) (by omega) (by decide) (fun zc12 => ?_) (fun zc12 => ?_)
      · refine lv_iload_n hx hb dX5_many_42 rfl (lvG hl rfl) ?_
        exact k_iret hC hr hlk dX5_many_43 (by rw [hs, show i = cn by omega])
      · refine lv_iload_n hx hb dX5_many_15 rfl (lvG hl rfl) ?_
        refine lv_aload_n hx hb dX5_many_16 rfl (lvG hl rfl) ?_
        refine r_row hC hK hP dX5_many_17 ?_
        refine lv_iload_n hx hb dX5_many_20 rfl (lvG hl rfl) ?_
        refine k_callPI (k_goS (rest := [.ref q, .int (nI ct)]) hC hK (c_X5_endAt l g i) L_X5_X5_endAt (⟨⟨Nat.le_of_ble_eq_true rfl, Nat.le_of_ble_eq_true rfl⟩, ⟨rfl, rfl⟩, ⟨Nat.le_of_ble_eq_true rfl, Nat.le_of_ble_eq_true rfl⟩⟩) (trivial) rfl hl.1 rfl (Nat.le_of_ble_eq_true rfl) dX5_many_21) ?_
        refine r_ald (k := 62 + 44 * i) hC hK hP (by omega) dX5_many_24 ?_
        refine lv_iload_n hx hb dX5_many_25 rfl (lvG hl rfl) ?_
        refine lv_icmp_ne (tgt := 33) hx hb dX5_many_26 (by decide) (fun zc26 => ?_) (fun zc26 => ?_)
        · refine lv_iconst (v := nI 0) hx hb dX5_many_33 (by decide) ?_
          refine n_iadd hC dX5_many_34 ?_
          refine lv_istore_n (lv' := [(2, .int (nI (ct + 0))), (3, .int (nI i)), (0, .ref o), (1, .int (en))]) hx hb dX5_many_35 rfl hl (by decide) rfl (fun ls hl => ?_)
          refine n_iinc (lv' := [(3, .int (nI (i + 1))), (2, .int (nI (ct + 0))), (0, .ref o), (1, .int (en))]) hC dX5_many_36 hl rfl (by decide) rfl (fun ls hl => ?_)
          refine lv_goto (tgt := 4) hx hb dX5_many_39 (by decide) ?_
          exact ih_3 (i + 1) (ct + 0)  (by first | omega | assumption | rfl) (by unfold s_mn; first | (rw [if_pos zc26, ← hs]; done) | (rw [if_neg zc26, ← hs]; done)) (by omega) ls (lv_sub hl [0, 1, 2, 3] rfl)
        · refine lv_iconst (v := nI 1) hx hb dX5_many_29 (by decide) ?_
          refine lv_goto (tgt := 34) hx hb dX5_many_30 (by decide) ?_
          refine n_iadd hC dX5_many_34 ?_
          refine lv_istore_n (lv' := [(2, .int (nI (ct + 1))), (3, .int (nI i)), (0, .ref o), (1, .int (en))]) hx hb dX5_many_35 rfl hl (by decide) rfl (fun ls hl => ?_)
          refine n_iinc (lv' := [(3, .int (nI (i + 1))), (2, .int (nI (ct + 1))), (0, .ref o), (1, .int (en))]) hC dX5_many_36 hl rfl (by decide) rfl (fun ls hl => ?_)
          refine lv_goto (tgt := 4) hx hb dX5_many_39 (by decide) ?_
          exact ih_3 (i + 1) (ct + 1)  (by first | omega | assumption | rfl) (by unfold s_mn; first | (rw [if_pos zc26, ← hs]; done) | (rw [if_neg zc26, ← hs]; done)) (by omega) ls (lv_sub hl [0, 1, 2, 3] rfl)
  exact key_1 ((cn - 0) + 1) 0 0  (by first | rfl | omega | assumption) (by first | rfl | omega | assumption) (Nat.lt_succ_self _) ls (lv_sub hl [0, 1, 2, 3] rfl)
theorem L_X5_X5_many : LnkV RX5 138 yX5_many cX5_many 4 (some .int) 1 := ⟨w_898, w_900, w_49, w_60, w_901, ⟨by decide +kernel, by decide +kernel⟩, by decide +kernel⟩
set_option maxHeartbeats 4000000 in
set_option maxRecDepth 100000 in
theorem c_X5_cardsOf (l : Launch) (g : kG) (o : Nat) (q : Nat) (f : Nat → Int32) (n : Nat) (en : Int32) (cn : Nat) (hc : f 61 = nI cn) (hcn : cn ≤ 10) : PI l yX5_cardsOf cX5_cardsOf 2 (some .int) (rr 2 43) [.ref o, .int (en)] ((RP g o q f n)) g (if nI 0 ≤ en ∧ en ≤ nI 1 then nI (s_mn f en cn) else cINV) := by
  refine kOf (by decide) (Nat.le_of_ble_eq_true rfl) (fun p e s m below meth c ls hC hr hlk hin hK hP hl => ?_)
  have hx := hC.1
  have hb := hC.2.1
  have hml := hC.2.2.1
  have hown := hC.2.2.2.1
  have hts := hC.2.2.2.2
  have hl : lv_has ls 2 [(0, .ref o), (1, .int (en))] := hl
  refine lv_iload_n hx hb dX5_cardsOf_0 rfl (lvG hl rfl) ?_
  refine k_callPI (k_goS (rest := []) hC hK (c_X5_isEnd l g en) L_X5_X5_isEnd (⟨⟨Nat.le_of_ble_eq_true rfl, Nat.le_of_ble_eq_true rfl⟩, ⟨rfl, rfl⟩, ⟨Nat.le_of_ble_eq_true rfl, Nat.le_of_ble_eq_true rfl⟩⟩) (trivial) rfl hl.1 rfl (Nat.le_of_ble_eq_true rfl) dX5_cardsOf_1) ?_
  refine b_ifeq (tgt := 15) hC dX5_cardsOf_4 (by decide) (fun zc4 => ?_) (fun zc4 => ?_)
  · refine lv_ldc (v := (-2000000001 : Int32)) hx hb hown (hts _ w_669) dX5_cardsOf_15 ?_
    exact k_iret hC hr hlk dX5_cardsOf_17 (by first | (rw [if_pos zc4]; done) | (rw [if_neg zc4]; done))
  · refine lv_aload_n hx hb dX5_cardsOf_7 rfl (lvG hl rfl) ?_
    refine lv_iload_n hx hb dX5_cardsOf_8 rfl (lvG hl rfl) ?_
    refine k_callPI (k_goV (rest := []) hC hK (c_X5_many l g o q f n en cn hc hcn) L_X5_X5_many (⟨⟨Nat.le_of_ble_eq_true rfl, Nat.le_of_ble_eq_true rfl⟩, ⟨rfl, rfl⟩, ⟨Nat.le_of_ble_eq_true rfl, Nat.le_of_ble_eq_true rfl⟩⟩) (hP.recv hK) (hP) rfl hl.1 rfl (Nat.le_of_ble_eq_true rfl) dX5_cardsOf_9) ?_
    refine lv_goto (tgt := 17) hx hb dX5_cardsOf_12 (by decide) ?_
    exact k_iret hC hr hlk dX5_cardsOf_17 (by first | (rw [if_pos zc4]; done) | (rw [if_neg zc4]; done))
def s_maR (f : Nat → Int32) (en : Int32) (cn : Nat) : Int32 := if nI 0 ≤ en ∧ en ≤ nI 1 then (if s_mn f en cn = 0 then cNON else s_ar (s_mv f en cn) 20) else cINV
theorem s_mv_at (f : Nat → Int32) (h : Nat → Int32) : s_ar (fun k => s_fl f 2510 h 42 (2510 + k)) 20 = s_ar h 20 := s_ar_eq 20 (by omega) (fun k hk => s_fl_in _ _ _ _ _ hk)
set_option maxHeartbeats 4000000 in
set_option maxRecDepth 100000 in
theorem c_X5_meanArea (l : Launch) (g : kG) (o : Nat) (q : Nat) (f : Nat → Int32) (n : Nat) (en : Int32) (cn : Nat) (hc : f 61 = nI cn) (hcn : cn ≤ 10) : MI l yX5_meanArea cX5_meanArea 6 (some .int) (rr 2 45) [.ref o, .int (en)] ((RP g o q f n)) g 0 0 (RA o q) (fun r H1 => r = s_maR f en cn ∧ RQ g o q f n H1) := by
  refine kOf (by decide) (Nat.le_of_ble_eq_true rfl) (fun p e s m below meth c ls hC hr hlk hin hK hP hl => ?_)
  have hx := hC.1
  have hb := hC.2.1
  have hml := hC.2.2.1
  have hown := hC.2.2.2.1
  have hts := hC.2.2.2.2
  have hl : lv_has ls 6 [(0, .ref o), (1, .int (en))] := hl
  have hS : va_S (RA o q) s.heap s.heap [] := va_S.rf
  have hmn := s_mn_le f en cn
  refine lv_iload_n hx hb dX5_meanArea_0 rfl (lvG hl rfl) ?_
  refine k_callPI (k_goS (rest := []) hC hK (c_X5_isEnd l g en) L_X5_X5_isEnd (⟨⟨Nat.le_of_ble_eq_true rfl, Nat.le_of_ble_eq_true rfl⟩, ⟨rfl, rfl⟩, ⟨Nat.le_of_ble_eq_true rfl, Nat.le_of_ble_eq_true rfl⟩⟩) (trivial) rfl hl.1 rfl (Nat.le_of_ble_eq_true rfl) dX5_meanArea_1) ?_
  refine b_ifne (tgt := 10) hC dX5_meanArea_4 (by decide) (fun zc4 => ?_) (fun zc4 => ?_)
  · refine lv_aload_n hx hb dX5_meanArea_10 rfl (lvG hl rfl) ?_
    refine lv_iload_n hx hb dX5_meanArea_11 rfl (lvG hl rfl) ?_
    refine k_callPI (k_goV (rest := []) hC hK (c_X5_many l g o q f n en cn hc hcn) L_X5_X5_many (⟨⟨Nat.le_of_ble_eq_true rfl, Nat.le_of_ble_eq_true rfl⟩, ⟨rfl, rfl⟩, ⟨Nat.le_of_ble_eq_true rfl, Nat.le_of_ble_eq_true rfl⟩⟩) (hP.recv hK) (hP) rfl hl.1 rfl (Nat.le_of_ble_eq_true rfl) dX5_meanArea_12) ?_
    refine lv_istore_n (lv' := [(2, .int (nI (s_mn f en cn))), (0, .ref o), (1, .int (en))]) hx hb dX5_meanArea_15 rfl hl (by decide) rfl (fun ls hl => ?_)
    refine lv_iload_n hx hb dX5_meanArea_16 rfl (lvG hl rfl) ?_
    refine n_if_ne (tgt := 23) hC dX5_meanArea_17 (by omega) (by decide) (fun zc17 => ?_) (fun zc17 => ?_)
    · refine lv_iconst (v := nI 0) hx hb dX5_meanArea_23 (by decide) ?_
      refine lv_istore_n (lv' := [(3, .int (nI 0)), (2, .int (nI (s_mn f en cn))), (0, .ref o), (1, .int (en))]) hx hb dX5_meanArea_24 rfl hl (by decide) rfl (fun ls hl => ?_)
      have key_1 : ∀ (k_2 : Nat) (t : Nat) (F : Nat → Int32) (H_l25 : Heap) (locs_l25 : List Loc) (hP_l25 : RP g o q F n H_l25) (hS_l25 : va_S (RA o q) s.heap H_l25 locs_l25) (ht : t ≤ 42) (hF : F = s_fl f 2510 (s_mv f en cn) t) (hk_k_2 : 42 - t < k_2) (ls : Array Slot) (hl : lv_has ls 6 [(3, .int (nI t)), (2, .int (nI (s_mn f en cn))), (0, .ref o), (1, .int (en))]), W p l e (rr 2 45) s m [.ref o, .int (en)].toArray below meth c H_l25 locs_l25 0 0 (MQ below (qI (RA o q) (fun r H1 => r = s_maR f en cn ∧ RQ g o q f n H1)) [.ref o, .int (en)].toArray s 0 0 (RA o q)) (F0 m 25 ls ([])) := by
        intro k_2
        induction k_2 with
        | zero => intro t F H_l25 locs_l25 hP_l25 hS_l25 ht hF hk_k_2 ls hl; exact absurd hk_k_2 (Nat.not_lt_zero _)
        | succ k_2 ih_3 =>
          intro t F H_l25 locs_l25 hP_l25 hS_l25 ht hF hk_k_2 ls hl
          have hFl : ∀ z, z < 2510 → F z = f z := fun z hz => by rw [hF]; exact s_fl_out _ _ _ _ _ (by omega)
          refine lv_iload_n hx hb dX5_meanArea_25 rfl (lvG hl rfl) ?_
          refine lv_bipush (v := nI 42) hx hb dX5_meanArea_26 (by decide) ?_
          refine n_icmp_ge (tgt := 110) hC dX5_meanArea_28 (by omega) (by omega) (by decide) (fun zc28 => ?_) (fun zc28 => ?_)
          · refine lv_aload_n hx hb dX5_meanArea_110 rfl (lvG hl rfl) ?_
            refine lv_sipush (v := nI 2510) hx hb dX5_meanArea_111 (by decide) ?_
            refine k_callPI (k_goV (rest := []) hC hK (c_X5_areaAt l g o q F n 2510 (by first | assumption | omega)) L_X5_X5_areaAt (⟨⟨Nat.le_of_ble_eq_true rfl, Nat.le_of_ble_eq_true rfl⟩, ⟨rfl, rfl⟩, ⟨Nat.le_of_ble_eq_true rfl, Nat.le_of_ble_eq_true rfl⟩⟩) (hP_l25.recv hK) (hP_l25) rfl hl.1 rfl (Nat.le_of_ble_eq_true rfl) dX5_meanArea_114) ?_
            exact k_iretM hC hr hlk hS_l25 dX5_meanArea_117 (by unfold s_maR; rw [if_pos zc4, if_neg zc17]; rw [hF, show t = 42 by omega] at hP_l25; refine ⟨?_, ⟨_, fun z hz => s_fl_out _ _ _ _ _ (by omega), hP_l25⟩⟩; rw [hF, show t = 42 by omega]; exact s_mv_at _ _)
          · refine lv_iconst (v := nI 0) hx hb dX5_meanArea_31 (by decide) ?_
            refine lv_istore (lv' := [(4, .int (nI 0)), (3, .int (nI t)), (2, .int (nI (s_mn f en cn))), (0, .ref o), (1, .int (en))]) hx hb dX5_meanArea_32 hl (by decide) rfl (fun ls hl => ?_)
            refine lv_iconst (v := nI 0) hx hb dX5_meanArea_34 (by decide) ?_
            refine lv_istore (lv' := [(5, .int (nI 0)), (4, .int (nI 0)), (3, .int (nI t)), (2, .int (nI (s_mn f en cn))), (0, .ref o), (1, .int (en))]) hx hb dX5_meanArea_35 hl (by decide) rfl (fun ls hl => ?_)
            have key_4 : ∀ (k_5 : Nat) (i : Nat) (sm : Int32)  (hi : i ≤ cn) (hsm : sm = s_sc f en t i) (hk_k_5 : cn - i < k_5) (ls : Array Slot) (hl : lv_has ls 6 [(5, .int (nI i)), (4, .int (sm)), (3, .int (nI t)), (2, .int (nI (s_mn f en cn))), (0, .ref o), (1, .int (en))]), W p l e (rr 2 45) s m [.ref o, .int (en)].toArray below meth c H_l25 locs_l25 0 0 (MQ below (qI (RA o q) (fun r H1 => r = s_maR f en cn ∧ RQ g o q f n H1)) [.ref o, .int (en)].toArray s 0 0 (RA o q)) (F0 m 37 ls ([])) := by
              intro k_5
              induction k_5 with
              | zero => intro i sm hi hsm hk_k_5 ls hl; exact absurd hk_k_5 (Nat.not_lt_zero _)
              | succ k_5 ih_6 =>
                intro i sm hi hsm hk_k_5 ls hl
                refine lv_iload hx hb dX5_meanArea_37 (lvG hl rfl) ?_
                refine lv_aload_n hx hb dX5_meanArea_39 rfl (lvG hl rfl) ?_
                refine r_row hC hK hP_l25 dX5_meanArea_40 ?_
                refine lv_bipush (v := nI 61) hx hb dX5_meanArea_43 (by decide) ?_
                refine r_ald (k := 61) hC hK hP_l25 (by omega) dX5_meanArea_45 ?_
                rw [show F 61 = nI cn from (hFl 61 (by omega)).trans hc]
                refine n_icmp_ge (tgt := 90) hC dX5_meanArea_46 (by omega) (by omega) (by decide) (fun zc46 => ?_) (fun zc46 => ?_)
                · refine lv_aload_n hx hb dX5_meanArea_90 rfl (lvG hl rfl) ?_
                  refine r_row hC hK hP_l25 dX5_meanArea_91 ?_
                  refine lv_sipush (v := nI 2510) hx hb dX5_meanArea_94 (by decide) ?_
                  refine lv_iload_n hx hb dX5_meanArea_97 rfl (lvG hl rfl) ?_
                  refine n_iadd hC dX5_meanArea_98 ?_
                  refine lv_iload hx hb dX5_meanArea_99 (lvG hl rfl) ?_
                  refine lv_iload_n hx hb dX5_meanArea_101 rfl (lvG hl rfl) ?_
                  refine lv_idiv hx hb dX5_meanArea_102 (nI_ne0 (by omega) (by omega)) ?_
                  refine r_ast (k := 2510 + t) hC hK hP_l25 hS_l25 (by omega) dX5_meanArea_103 (fun H_7 locs_8 hP_9 hS_10 => ?_)
                  refine n_iinc (lv' := [(3, .int (nI (t + 1))), (5, .int (nI i)), (4, .int (sm)), (2, .int (nI (s_mn f en cn))), (0, .ref o), (1, .int (en))]) hC dX5_meanArea_104 hl rfl (by decide) rfl (fun ls hl => ?_)
                  refine lv_goto (tgt := 25) hx hb dX5_meanArea_107 (by decide) ?_
                  exact ih_3 (t + 1) (upd F (2510 + t) (sm / (nI (s_mn f en cn)))) _ _ hP_9 hS_10 (by first | omega | assumption | rfl) (by rw [hF, hsm, show i = cn by omega]; exact s_fl_succ _ _ _ _) (by omega) ls (lv_sub hl [0, 3, 4, 5] rfl)
                · refine lv_iload hx hb dX5_meanArea_49 (lvG hl rfl) ?_
                  refine lv_aload_n hx hb dX5_meanArea_51 rfl (lvG hl rfl) ?_
                  refine r_row hC hK hP_l25 dX5_meanArea_52 ?_
                  refine lv_iload hx hb dX5_meanArea_55 (lvG hl rfl) ?_
                  refine k_callPI (k_goS (rest := [.ref q, .int (sm)]) hC hK (c_X5_endAt l g i) L_X5_X5_endAt (⟨⟨Nat.le_of_ble_eq_true rfl, Nat.le_of_ble_eq_true rfl⟩, ⟨rfl, rfl⟩, ⟨Nat.le_of_ble_eq_true rfl, Nat.le_of_ble_eq_true rfl⟩⟩) (trivial) rfl hl.1 rfl (Nat.le_of_ble_eq_true rfl) dX5_meanArea_57) ?_
                  refine r_ald (k := 62 + 44 * i) hC hK hP_l25 (by omega) dX5_meanArea_60 ?_
                  rw [hFl _ (by omega)]
                  refine lv_iload_n hx hb dX5_meanArea_61 rfl (lvG hl rfl) ?_
                  refine lv_icmp_ne (tgt := 80) hx hb dX5_meanArea_62 (by decide) (fun zc62 => ?_) (fun zc62 => ?_)
                  · refine lv_iconst (v := nI 0) hx hb dX5_meanArea_80 (by decide) ?_
                    refine lv_iadd hx hb dX5_meanArea_81 ?_
                    refine lv_istore (lv' := [(4, .int (sm + (nI 0))), (5, .int (nI i)), (3, .int (nI t)), (2, .int (nI (s_mn f en cn))), (0, .ref o), (1, .int (en))]) hx hb dX5_meanArea_82 hl (by decide) rfl (fun ls hl => ?_)
                    refine n_iinc (lv' := [(5, .int (nI (i + 1))), (4, .int (sm + (nI 0))), (3, .int (nI t)), (2, .int (nI (s_mn f en cn))), (0, .ref o), (1, .int (en))]) hC dX5_meanArea_84 hl rfl (by decide) rfl (fun ls hl => ?_)
                    refine lv_goto (tgt := 37) hx hb dX5_meanArea_87 (by decide) ?_
                    exact ih_6 (i + 1) (sm + (nI 0))  (by first | omega | assumption | rfl) (by unfold s_sc; rw [← hsm]; first | (rw [if_pos zc62]; done) | (rw [if_neg zc62]; done)) (by omega) ls (lv_sub hl [0, 1, 2, 3, 4, 5] rfl)
                  · refine lv_aload_n hx hb dX5_meanArea_65 rfl (lvG hl rfl) ?_
                    refine r_row hC hK hP_l25 dX5_meanArea_66 ?_
                    refine lv_iload hx hb dX5_meanArea_69 (lvG hl rfl) ?_
                    refine k_callPI (k_goS (rest := [.ref q, .int (sm)]) hC hK (c_X5_at l g i) L_X5_X5_at (⟨⟨Nat.le_of_ble_eq_true rfl, Nat.le_of_ble_eq_true rfl⟩, ⟨rfl, rfl⟩, ⟨Nat.le_of_ble_eq_true rfl, Nat.le_of_ble_eq_true rfl⟩⟩) (trivial) rfl hl.1 rfl (Nat.le_of_ble_eq_true rfl) dX5_meanArea_71) ?_
                    refine lv_iload_n hx hb dX5_meanArea_74 rfl (lvG hl rfl) ?_
                    refine n_iadd hC dX5_meanArea_75 ?_
                    refine r_ald (k := 62 + 44 * i + 2 + t) hC hK hP_l25 (by omega) dX5_meanArea_76 ?_
                    rw [hFl _ (by omega)]
                    refine lv_goto (tgt := 81) hx hb dX5_meanArea_77 (by decide) ?_
                    refine lv_iadd hx hb dX5_meanArea_81 ?_
                    refine lv_istore (lv' := [(4, .int (sm + (f ((62 + 44 * i + 2 + t))))), (5, .int (nI i)), (3, .int (nI t)), (2, .int (nI (s_mn f en cn))), (0, .ref o), (1, .int (en))]) hx hb dX5_meanArea_82 hl (by decide) rfl (fun ls hl => ?_)
                    refine n_iinc (lv' := [(5, .int (nI (i + 1))), (4, .int (sm + (f ((62 + 44 * i + 2 + t))))), (3, .int (nI t)), (2, .int (nI (s_mn f en cn))), (0, .ref o), (1, .int (en))]) hC dX5_meanArea_84 hl rfl (by decide) rfl (fun ls hl => ?_)
                    refine lv_goto (tgt := 37) hx hb dX5_meanArea_87 (by decide) ?_
                    exact ih_6 (i + 1) (sm + (f ((62 + 44 * i + 2 + t))))  (by first | omega | assumption | rfl) (by unfold s_sc; rw [← hsm]; first | (rw [if_pos zc62]; done) | (rw [if_neg zc62]; done)) (by omega) ls (lv_sub hl [0, 1, 2, 3, 4, 5] rfl)
            exact key_4 ((cn - 0) + 1) 0 (nI 0)  (by first | rfl | omega | assumption) (by first | rfl | omega | assumption) (Nat.lt_succ_self _) ls (lv_sub hl [0, 1, 2, 3, 4, 5] rfl)
      exact key_1 ((42 - 0) + 1) 0 f _ _ hP hS (by first | rfl | omega | assumption) ((s_fl_0 _ _ _).symm) (Nat.lt_succ_self _) ls (lv_sub hl [0, 1, 2, 3] rfl)
    · refine lv_ldc (v := (-2000000004 : Int32)) hx hb hown (hts _ w_893) dX5_meanArea_20 ?_
      exact k_iretM hC hr hlk hS dX5_meanArea_22 (by unfold s_maR; rw [if_pos zc4, if_pos zc17]; exact ⟨rfl, hP.q⟩)
  · refine lv_ldc (v := (-2000000001 : Int32)) hx hb hown (hts _ w_669) dX5_meanArea_7 ?_
    exact k_iretM hC hr hlk hS dX5_meanArea_9 (by unfold s_maR; rw [if_neg zc4]; exact ⟨rfl, hP.q⟩)
set_option maxHeartbeats 4000000 in
set_option maxRecDepth 100000 in
theorem c_X5_meanPowerOf (l : Launch) (g : kG) (o : Nat) (q : Nat) (f : Nat → Int32) (n : Nat) (en : Int32) (cn : Nat) (hc : f 61 = nI cn) (hcn : cn ≤ 10) (hE : ∀ j, j < cn → f (62 + 44 * j) = nI (s_en f j) ∧ s_en f j ≤ 1) (hm : 0 < s_mn f en cn) : PL l yX5_meanPowerOf cX5_meanPowerOf 5 (some .long) (rr 3 67) [.ref o, .int (en)] ((RP g o q f n)) g (s_mp f en cn) := by
  refine kOf (by decide) (Nat.le_of_ble_eq_true rfl) (fun p e s m below meth c ls hC hr hlk hin hK hP hl => ?_)
  have hx := hC.1
  have hb := hC.2.1
  have hml := hC.2.2.1
  have hown := hC.2.2.2.1
  have hts := hC.2.2.2.2
  have hl : lv_has ls 5 [(0, .ref o), (1, .int (en))] := hl
  have hmn := s_mn_le f en cn
  refine lv_lconst (v := lN 0) hx hb dX5_meanPowerOf_0 (by decide) ?_
  refine lv_lstore_n (lv' := [(2, .long (lN 0)), (0, .ref o), (1, .int (en))]) hx hb dX5_meanPowerOf_1 rfl hl (by decide) rfl (fun ls hl => ?_)
  refine lv_iconst (v := nI 0) hx hb dX5_meanPowerOf_2 (by decide) ?_
  refine lv_istore (lv' := [(4, .int (nI 0)), (2, .long (lN 0)), (0, .ref o), (1, .int (en))]) hx hb dX5_meanPowerOf_3 hl (by decide) rfl (fun ls hl => ?_)
  have key_1 : ∀ (k_2 : Nat) (i : Nat) (sm : Int64)  (hi : i ≤ cn) (hs : sm = s_sp f en i) (hk_k_2 : cn - i < k_2) (ls : Array Slot) (hl : lv_has ls 5 [(4, .int (nI i)), (2, .long (sm)), (0, .ref o), (1, .int (en))]), W p l e (rr 3 67) s m [.ref o, .int (en)].toArray below meth c s.heap [] 0 0 (MQ below (vp_Sl (fun r => r = s_mp f en cn)) [.ref o, .int (en)].toArray s 0 0 (fun _ => False)) (F0 m 5 ls ([])) := by
    intro k_2
    induction k_2 with
    | zero => intro i sm hi hs hk_k_2 ls hl; exact absurd hk_k_2 (Nat.not_lt_zero _)
    | succ k_2 ih_3 =>
      intro i sm hi hs hk_k_2 ls hl
      refine lv_iload hx hb dX5_meanPowerOf_5 (lvG hl rfl) ?_
      refine lv_aload_n hx hb dX5_meanPowerOf_7 rfl (lvG hl rfl) ?_
      refine r_row hC hK hP dX5_meanPowerOf_8 ?_
      refine lv_bipush (v := nI 61) hx hb dX5_meanPowerOf_11 (by decide) ?_
      refine r_ald (k := 61) hC hK hP (by omega) dX5_meanPowerOf_13 ?_
      rw [hc]
      refine n_icmp_ge (tgt := 50) hC dX5_meanPowerOf_14 (by omega) (by omega) (by decide) (fun zc14 => ?_) (fun zc14 => ?_)
      · refine lv_lload_n hx hb dX5_meanPowerOf_50 rfl (lvG hl rfl) ?_
        refine lv_aload_n hx hb dX5_meanPowerOf_51 rfl (lvG hl rfl) ?_
        refine lv_iload_n hx hb dX5_meanPowerOf_52 rfl (lvG hl rfl) ?_
        refine k_callPI (k_goV (rest := [.long (sm)]) hC hK (c_X5_many l g o q f n en cn hc hcn) L_X5_X5_many (⟨⟨Nat.le_of_ble_eq_true rfl, Nat.le_of_ble_eq_true rfl⟩, ⟨rfl, rfl⟩, ⟨Nat.le_of_ble_eq_true rfl, Nat.le_of_ble_eq_true rfl⟩⟩) (hP.recv hK) (hP) rfl hl.1 rfl (Nat.le_of_ble_eq_true rfl) dX5_meanPowerOf_53) ?_
        refine lv_i2l (v := (nI (s_mn f en cn)).toInt64) hx hb dX5_meanPowerOf_56 rfl ?_
        refine k_callPL (k_goS (rest := []) hC hK (c_X5_quotient l g sm ((nI (s_mn f en cn)).toInt64) (l_ne0 (by omega) (by omega))) L_X5_X5_quotient (⟨⟨Nat.le_of_ble_eq_true rfl, Nat.le_of_ble_eq_true rfl⟩, ⟨rfl, rfl⟩, ⟨Nat.le_of_ble_eq_true rfl, Nat.le_of_ble_eq_true rfl⟩⟩) (trivial) rfl hl.1 rfl (Nat.le_of_ble_eq_true rfl) dX5_meanPowerOf_57) ?_
        exact k_lret hC hr hlk dX5_meanPowerOf_60 (by rw [hs, show i = cn by omega]; rfl)
      · refine lv_lload_n hx hb dX5_meanPowerOf_17 rfl (lvG hl rfl) ?_
        refine lv_aload_n hx hb dX5_meanPowerOf_18 rfl (lvG hl rfl) ?_
        refine r_row hC hK hP dX5_meanPowerOf_19 ?_
        refine lv_iload hx hb dX5_meanPowerOf_22 (lvG hl rfl) ?_
        refine k_callPI (k_goS (rest := [.ref q, .long (sm)]) hC hK (c_X5_endAt l g i) L_X5_X5_endAt (⟨⟨Nat.le_of_ble_eq_true rfl, Nat.le_of_ble_eq_true rfl⟩, ⟨rfl, rfl⟩, ⟨Nat.le_of_ble_eq_true rfl, Nat.le_of_ble_eq_true rfl⟩⟩) (trivial) rfl hl.1 rfl (Nat.le_of_ble_eq_true rfl) dX5_meanPowerOf_24) ?_
        refine r_ald (k := 62 + 44 * i) hC hK hP (by omega) dX5_meanPowerOf_27 ?_
        refine lv_iload_n hx hb dX5_meanPowerOf_28 rfl (lvG hl rfl) ?_
        refine lv_icmp_ne (tgt := 41) hx hb dX5_meanPowerOf_29 (by decide) (fun zc29 => ?_) (fun zc29 => ?_)
        · refine lv_lconst (v := lN 0) hx hb dX5_meanPowerOf_41 (by decide) ?_
          refine lv_ladd hx hb dX5_meanPowerOf_42 ?_
          refine lv_lstore_n (lv' := [(2, .long (sm + (lN 0))), (4, .int (nI i)), (0, .ref o), (1, .int (en))]) hx hb dX5_meanPowerOf_43 rfl hl (by decide) rfl (fun ls hl => ?_)
          refine n_iinc (lv' := [(4, .int (nI (i + 1))), (2, .long (sm + (lN 0))), (0, .ref o), (1, .int (en))]) hC dX5_meanPowerOf_44 hl rfl (by decide) rfl (fun ls hl => ?_)
          refine lv_goto (tgt := 5) hx hb dX5_meanPowerOf_47 (by decide) ?_
          exact ih_3 (i + 1) (sm + (lN 0))  (by first | omega | assumption | rfl) (by unfold s_sp; rw [← hs]; first | (rw [if_pos zc29]; done) | (rw [if_neg zc29]; done)) (by omega) ls (lv_sub hl [0, 1, 2, 3] rfl)
        · refine lv_aload_n hx hb dX5_meanPowerOf_32 rfl (lvG hl rfl) ?_
          refine lv_iload hx hb dX5_meanPowerOf_33 (lvG hl rfl) ?_
          refine k_callPL (k_goV (rest := [.long (sm)]) hC hK (c_X5_powerAt l g o q f n i cn hc hcn (by first | assumption | omega) hE) L_X5_X5_powerAt (⟨⟨Nat.le_of_ble_eq_true rfl, Nat.le_of_ble_eq_true rfl⟩, ⟨rfl, rfl⟩, ⟨Nat.le_of_ble_eq_true rfl, Nat.le_of_ble_eq_true rfl⟩⟩) (hP.recv hK) (hP) rfl hl.1 rfl (Nat.le_of_ble_eq_true rfl) dX5_meanPowerOf_35) ?_
          refine lv_goto (tgt := 42) hx hb dX5_meanPowerOf_38 (by decide) ?_
          refine lv_ladd hx hb dX5_meanPowerOf_42 ?_
          refine lv_lstore_n (lv' := [(2, .long (sm + (s_pc f i))), (4, .int (nI i)), (0, .ref o), (1, .int (en))]) hx hb dX5_meanPowerOf_43 rfl hl (by decide) rfl (fun ls hl => ?_)
          refine n_iinc (lv' := [(4, .int (nI (i + 1))), (2, .long (sm + (s_pc f i))), (0, .ref o), (1, .int (en))]) hC dX5_meanPowerOf_44 hl rfl (by decide) rfl (fun ls hl => ?_)
          refine lv_goto (tgt := 5) hx hb dX5_meanPowerOf_47 (by decide) ?_
          exact ih_3 (i + 1) (sm + (s_pc f i))  (by first | omega | assumption | rfl) (by unfold s_sp; rw [← hs]; first | (rw [if_pos zc29]; done) | (rw [if_neg zc29]; done)) (by omega) ls (lv_sub hl [0, 1, 2, 3] rfl)
  exact key_1 ((cn - 0) + 1) 0 (lN 0)  (by first | rfl | omega | assumption) (by first | rfl | omega | assumption) (Nat.lt_succ_self _) ls (lv_sub hl [0, 1, 2, 3] rfl)
theorem L_X5_X5_meanPowerOf : LnkV RX5 143 yX5_meanPowerOf cX5_meanPowerOf 5 (some .long) 1 := ⟨w_911, w_913, w_50, w_60, w_914, ⟨by decide +kernel, by decide +kernel⟩, by decide +kernel⟩
set_option maxHeartbeats 4000000 in
set_option maxRecDepth 100000 in
theorem c_X5_meanPower (l : Launch) (g : kG) (o : Nat) (q : Nat) (f : Nat → Int32) (n : Nat) (en : Int32) (cn : Nat) (hc : f 61 = nI cn) (hcn : cn ≤ 10) (hE : ∀ j, j < cn → f (62 + 44 * j) = nI (s_en f j) ∧ s_en f j ≤ 1) : PL l yX5_meanPower cX5_meanPower 2 (some .long) (rr 4 91) [.ref o, .int (en)] ((RP g o q f n)) g (if nI 0 ≤ en ∧ en ≤ nI 1 then (if s_mn f en cn = 0 then (-2000000004 : Int64) else s_mp f en cn) else (-2000000001 : Int64)) := by
  refine kOf (by decide) (Nat.le_of_ble_eq_true rfl) (fun p e s m below meth c ls hC hr hlk hin hK hP hl => ?_)
  have hx := hC.1
  have hb := hC.2.1
  have hml := hC.2.2.1
  have hown := hC.2.2.2.1
  have hts := hC.2.2.2.2
  have hl : lv_has ls 2 [(0, .ref o), (1, .int (en))] := hl
  have hmn := s_mn_le f en cn
  refine lv_iload_n hx hb dX5_meanPower_0 rfl (lvG hl rfl) ?_
  refine k_callPI (k_goS (rest := []) hC hK (c_X5_isEnd l g en) L_X5_X5_isEnd (⟨⟨Nat.le_of_ble_eq_true rfl, Nat.le_of_ble_eq_true rfl⟩, ⟨rfl, rfl⟩, ⟨Nat.le_of_ble_eq_true rfl, Nat.le_of_ble_eq_true rfl⟩⟩) (trivial) rfl hl.1 rfl (Nat.le_of_ble_eq_true rfl) dX5_meanPower_1) ?_
  refine b_ifne (tgt := 11) hC dX5_meanPower_4 (by decide) (fun zc4 => ?_) (fun zc4 => ?_)
  · refine lv_aload_n hx hb dX5_meanPower_11 rfl (lvG hl rfl) ?_
    refine lv_iload_n hx hb dX5_meanPower_12 rfl (lvG hl rfl) ?_
    refine k_callPI (k_goV (rest := []) hC hK (c_X5_many l g o q f n en cn hc hcn) L_X5_X5_many (⟨⟨Nat.le_of_ble_eq_true rfl, Nat.le_of_ble_eq_true rfl⟩, ⟨rfl, rfl⟩, ⟨Nat.le_of_ble_eq_true rfl, Nat.le_of_ble_eq_true rfl⟩⟩) (hP.recv hK) (hP) rfl hl.1 rfl (Nat.le_of_ble_eq_true rfl) dX5_meanPower_13) ?_
    refine n_if_ne (tgt := 25) hC dX5_meanPower_16 (by omega) (by decide) (fun zc16 => ?_) (fun zc16 => ?_)
    · refine lv_aload_n hx hb dX5_meanPower_25 rfl (lvG hl rfl) ?_
      refine lv_iload_n hx hb dX5_meanPower_26 rfl (lvG hl rfl) ?_
      refine k_callPL (k_goV (rest := []) hC hK (c_X5_meanPowerOf l g o q f n en cn hc hcn hE (by first | assumption | omega)) L_X5_X5_meanPowerOf (⟨⟨Nat.le_of_ble_eq_true rfl, Nat.le_of_ble_eq_true rfl⟩, ⟨rfl, rfl⟩, ⟨Nat.le_of_ble_eq_true rfl, Nat.le_of_ble_eq_true rfl⟩⟩) (hP.recv hK) (hP) rfl hl.1 rfl (Nat.le_of_ble_eq_true rfl) dX5_meanPower_27) ?_
      exact k_lret hC hr hlk dX5_meanPower_30 (by first | (rw [if_neg zc4]; done) | (rw [if_pos zc4, if_pos zc16]; done) | (rw [if_pos zc4, if_neg zc16]; done))
    · refine lv_ldc2 (v := (-2000000004 : Int64)) hx hb hown (hts _ w_910) dX5_meanPower_19 ?_
      refine lv_goto (tgt := 30) hx hb dX5_meanPower_22 (by decide) ?_
      exact k_lret hC hr hlk dX5_meanPower_30 (by first | (rw [if_neg zc4]; done) | (rw [if_pos zc4, if_pos zc16]; done) | (rw [if_pos zc4, if_neg zc16]; done))
  · refine lv_ldc2 (v := (-2000000001 : Int64)) hx hb hown (hts _ w_833) dX5_meanPower_7 ?_
    exact k_lret hC hr hlk dX5_meanPower_10 (by first | (rw [if_neg zc4]; done) | (rw [if_pos zc4, if_pos zc16]; done) | (rw [if_pos zc4, if_neg zc16]; done))
set_option maxHeartbeats 4000000 in
set_option maxRecDepth 100000 in
theorem c_X5_imbalance (l : Launch) (g : kG) (o : Nat) (q : Nat) (f : Nat → Int32) (n : Nat) (cn : Nat) (hc : f 61 = nI cn) (hcn : cn ≤ 10) (hE : ∀ j, j < cn → f (62 + 44 * j) = nI (s_en f j) ∧ s_en f j ≤ 1) : PI l yX5_imbalance cX5_imbalance 7 (some .int) (rr 4 91) [.ref o] ((RP g o q f n)) g (s_im f cn) := by
  refine kOf (by decide) (Nat.le_of_ble_eq_true rfl) (fun p e s m below meth c ls hC hr hlk hin hK hP hl => ?_)
  have hx := hC.1
  have hb := hC.2.1
  have hml := hC.2.2.1
  have hown := hC.2.2.2.1
  have hts := hC.2.2.2.2
  have hl : lv_has ls 7 [(0, .ref o)] := hl
  have hm0 := s_mn_le f (nI 0) cn
  have hm1 := s_mn_le f (nI 1) cn
  refine lv_aload_n hx hb dX5_imbalance_0 rfl (lvG hl rfl) ?_
  refine lv_iconst (v := nI 0) hx hb dX5_imbalance_1 (by decide) ?_
  refine k_callPI (k_goV (rest := []) hC hK (c_X5_many l g o q f n (nI 0) cn hc hcn) L_X5_X5_many (⟨⟨Nat.le_of_ble_eq_true rfl, Nat.le_of_ble_eq_true rfl⟩, ⟨rfl, rfl⟩, ⟨Nat.le_of_ble_eq_true rfl, Nat.le_of_ble_eq_true rfl⟩⟩) (hP.recv hK) (hP) rfl hl.1 rfl (Nat.le_of_ble_eq_true rfl) dX5_imbalance_2) ?_
  refine n_if_eq (tgt := 16) hC dX5_imbalance_5 (by omega) (by decide) (fun zc5 => ?_) (fun zc5 => ?_)
  · refine lv_ldc (v := (-2000000004 : Int32)) hx hb hown (hts _ w_893) dX5_imbalance_16 ?_
    exact k_iret hC hr hlk dX5_imbalance_18 (by unfold s_im; first | (rw [if_pos (Or.inl zc5)]; done) | (rw [if_pos (Or.inr zc13)]; done))
  · refine lv_aload_n hx hb dX5_imbalance_8 rfl (lvG hl rfl) ?_
    refine lv_iconst (v := nI 1) hx hb dX5_imbalance_9 (by decide) ?_
    refine k_callPI (k_goV (rest := []) hC hK (c_X5_many l g o q f n (nI 1) cn hc hcn) L_X5_X5_many (⟨⟨Nat.le_of_ble_eq_true rfl, Nat.le_of_ble_eq_true rfl⟩, ⟨rfl, rfl⟩, ⟨Nat.le_of_ble_eq_true rfl, Nat.le_of_ble_eq_true rfl⟩⟩) (hP.recv hK) (hP) rfl hl.1 rfl (Nat.le_of_ble_eq_true rfl) dX5_imbalance_10) ?_
    refine n_if_ne (tgt := 19) hC dX5_imbalance_13 (by omega) (by decide) (fun zc13 => ?_) (fun zc13 => ?_)
    · refine lv_aload_n hx hb dX5_imbalance_19 rfl (lvG hl rfl) ?_
      refine lv_iconst (v := nI 0) hx hb dX5_imbalance_20 (by decide) ?_
      refine k_callPL (k_goV (rest := []) hC hK (c_X5_meanPowerOf l g o q f n (nI 0) cn hc hcn hE (by first | assumption | omega)) L_X5_X5_meanPowerOf (⟨⟨Nat.le_of_ble_eq_true rfl, Nat.le_of_ble_eq_true rfl⟩, ⟨rfl, rfl⟩, ⟨Nat.le_of_ble_eq_true rfl, Nat.le_of_ble_eq_true rfl⟩⟩) (hP.recv hK) (hP) rfl hl.1 rfl (Nat.le_of_ble_eq_true rfl) dX5_imbalance_21) ?_
      refine lv_lstore_n (lv' := [(1, .long (s_mp f (nI 0) cn)), (0, .ref o)]) hx hb dX5_imbalance_24 rfl hl (by decide) rfl (fun ls hl => ?_)
      refine lv_aload_n hx hb dX5_imbalance_25 rfl (lvG hl rfl) ?_
      refine lv_iconst (v := nI 1) hx hb dX5_imbalance_26 (by decide) ?_
      refine k_callPL (k_goV (rest := []) hC hK (c_X5_meanPowerOf l g o q f n (nI 1) cn hc hcn hE (by first | assumption | omega)) L_X5_X5_meanPowerOf (⟨⟨Nat.le_of_ble_eq_true rfl, Nat.le_of_ble_eq_true rfl⟩, ⟨rfl, rfl⟩, ⟨Nat.le_of_ble_eq_true rfl, Nat.le_of_ble_eq_true rfl⟩⟩) (hP.recv hK) (hP) rfl hl.1 rfl (Nat.le_of_ble_eq_true rfl) dX5_imbalance_27) ?_
      refine lv_lstore_n (lv' := [(3, .long (s_mp f (nI 1) cn)), (1, .long (s_mp f (nI 0) cn)), (0, .ref o)]) hx hb dX5_imbalance_30 rfl hl (by decide) rfl (fun ls hl => ?_)
      refine lv_lload_n hx hb dX5_imbalance_31 rfl (lvG hl rfl) ?_
      refine lv_lload_n hx hb dX5_imbalance_32 rfl (lvG hl rfl) ?_
      refine j_lge (tgt := 43) hC dX5_imbalance_33 dX5_imbalance_34 (by decide) (fun zc33 => ?_) (fun zc33 => ?_)
      · refine lv_lload_n hx hb dX5_imbalance_43 rfl (lvG hl rfl) ?_
        refine lv_lload_n hx hb dX5_imbalance_44 rfl (lvG hl rfl) ?_
        refine lv_lsub hx hb dX5_imbalance_45 ?_
        refine lv_lstore (lv' := [(5, .long ((s_mp f (nI 0) cn) - (s_mp f (nI 1) cn))), (3, .long (s_mp f (nI 1) cn)), (1, .long (s_mp f (nI 0) cn)), (0, .ref o)]) hx hb dX5_imbalance_46 hl (by decide) rfl (fun ls hl => ?_)
        refine lv_lload_n hx hb dX5_imbalance_48 rfl (lvG hl rfl) ?_
        refine lv_lconst (v := lN 0) hx hb dX5_imbalance_49 (by decide) ?_
        refine j_llt (tgt := 68) hC dX5_imbalance_50 dX5_imbalance_51 (by decide) (fun zc50 => ?_) (fun zc50 => ?_)
        · refine lv_ldc (v := (-2000000004 : Int32)) hx hb hown (hts _ w_893) dX5_imbalance_68 ?_
          refine lv_goto (tgt := 84) hx hb dX5_imbalance_70 (by decide) ?_
          exact k_iret hC hr hlk dX5_imbalance_84 (by unfold s_im; rw [if_neg (fun q => q.elim zc5 zc13)]; first | (rw [if_pos (Or.inl zc50)]; done) | (rw [if_pos (Or.inr (Or.inl zc56))]; done) | (rw [if_pos (Or.inr (Or.inr zc64))]; done) | (rw [if_neg (fun q => q.elim zc50 (fun q => q.elim zc56 zc64)), if_neg (Int64.not_lt.mpr zc33)]; done) | (rw [if_neg (fun q => q.elim zc50 (fun q => q.elim zc56 zc64)), if_pos (Int64.not_le.mp zc33)]; done))
        · refine lv_lload_n hx hb dX5_imbalance_54 rfl (lvG hl rfl) ?_
          refine lv_lconst (v := lN 0) hx hb dX5_imbalance_55 (by decide) ?_
          refine j_llt (tgt := 68) hC dX5_imbalance_56 dX5_imbalance_57 (by decide) (fun zc56 => ?_) (fun zc56 => ?_)
          · refine lv_ldc (v := (-2000000004 : Int32)) hx hb hown (hts _ w_893) dX5_imbalance_68 ?_
            refine lv_goto (tgt := 84) hx hb dX5_imbalance_70 (by decide) ?_
            exact k_iret hC hr hlk dX5_imbalance_84 (by unfold s_im; rw [if_neg (fun q => q.elim zc5 zc13)]; first | (rw [if_pos (Or.inl zc50)]; done) | (rw [if_pos (Or.inr (Or.inl zc56))]; done) | (rw [if_pos (Or.inr (Or.inr zc64))]; done) | (rw [if_neg (fun q => q.elim zc50 (fun q => q.elim zc56 zc64)), if_neg (Int64.not_lt.mpr zc33)]; done) | (rw [if_neg (fun q => q.elim zc50 (fun q => q.elim zc56 zc64)), if_pos (Int64.not_le.mp zc33)]; done))
          · refine lv_lload_n hx hb dX5_imbalance_60 rfl (lvG hl rfl) ?_
            refine lv_lload_n hx hb dX5_imbalance_61 rfl (lvG hl rfl) ?_
            refine lv_ladd hx hb dX5_imbalance_62 ?_
            refine lv_lconst (v := lN 0) hx hb dX5_imbalance_63 (by decide) ?_
            refine j_lne (tgt := 73) hC dX5_imbalance_64 dX5_imbalance_65 (by decide) (fun zc64 => ?_) (fun zc64 => ?_)
            · refine lv_lload hx hb dX5_imbalance_73 (lvG hl rfl) ?_
              refine lv_ldc2 (v := (1000 : Int64)) hx hb hown (hts _ w_755) dX5_imbalance_75 ?_
              refine lv_lmul hx hb dX5_imbalance_78 ?_
              refine lv_lload_n hx hb dX5_imbalance_79 rfl (lvG hl rfl) ?_
              refine lv_lload_n hx hb dX5_imbalance_80 rfl (lvG hl rfl) ?_
              refine lv_ladd hx hb dX5_imbalance_81 ?_
              refine lv_ldiv hx hb dX5_imbalance_82 (zc64) ?_
              refine lv_l2i (v := ((((s_mp f (nI 0) cn) - (s_mp f (nI 1) cn)) * ((1000 : Int64))) / ((s_mp f (nI 0) cn) + (s_mp f (nI 1) cn))).toInt32) hx hb dX5_imbalance_83 rfl ?_
              exact k_iret hC hr hlk dX5_imbalance_84 (by unfold s_im; rw [if_neg (fun q => q.elim zc5 zc13)]; first | (rw [if_pos (Or.inl zc50)]; done) | (rw [if_pos (Or.inr (Or.inl zc56))]; done) | (rw [if_pos (Or.inr (Or.inr zc64))]; done) | (rw [if_neg (fun q => q.elim zc50 (fun q => q.elim zc56 zc64)), if_neg (Int64.not_lt.mpr zc33)]; done) | (rw [if_neg (fun q => q.elim zc50 (fun q => q.elim zc56 zc64)), if_pos (Int64.not_le.mp zc33)]; done))
            · refine lv_ldc (v := (-2000000004 : Int32)) hx hb hown (hts _ w_893) dX5_imbalance_68 ?_
              refine lv_goto (tgt := 84) hx hb dX5_imbalance_70 (by decide) ?_
              exact k_iret hC hr hlk dX5_imbalance_84 (by unfold s_im; rw [if_neg (fun q => q.elim zc5 zc13)]; first | (rw [if_pos (Or.inl zc50)]; done) | (rw [if_pos (Or.inr (Or.inl zc56))]; done) | (rw [if_pos (Or.inr (Or.inr zc64))]; done) | (rw [if_neg (fun q => q.elim zc50 (fun q => q.elim zc56 zc64)), if_neg (Int64.not_lt.mpr zc33)]; done) | (rw [if_neg (fun q => q.elim zc50 (fun q => q.elim zc56 zc64)), if_pos (Int64.not_le.mp zc33)]; done))
      · refine lv_lload_n hx hb dX5_imbalance_37 rfl (lvG hl rfl) ?_
        refine lv_lload_n hx hb dX5_imbalance_38 rfl (lvG hl rfl) ?_
        refine lv_lsub hx hb dX5_imbalance_39 ?_
        refine lv_goto (tgt := 46) hx hb dX5_imbalance_40 (by decide) ?_
        refine lv_lstore (lv' := [(5, .long ((s_mp f (nI 1) cn) - (s_mp f (nI 0) cn))), (3, .long (s_mp f (nI 1) cn)), (1, .long (s_mp f (nI 0) cn)), (0, .ref o)]) hx hb dX5_imbalance_46 hl (by decide) rfl (fun ls hl => ?_)
        refine lv_lload_n hx hb dX5_imbalance_48 rfl (lvG hl rfl) ?_
        refine lv_lconst (v := lN 0) hx hb dX5_imbalance_49 (by decide) ?_
        refine j_llt (tgt := 68) hC dX5_imbalance_50 dX5_imbalance_51 (by decide) (fun zc50 => ?_) (fun zc50 => ?_)
        · refine lv_ldc (v := (-2000000004 : Int32)) hx hb hown (hts _ w_893) dX5_imbalance_68 ?_
          refine lv_goto (tgt := 84) hx hb dX5_imbalance_70 (by decide) ?_
          exact k_iret hC hr hlk dX5_imbalance_84 (by unfold s_im; rw [if_neg (fun q => q.elim zc5 zc13)]; first | (rw [if_pos (Or.inl zc50)]; done) | (rw [if_pos (Or.inr (Or.inl zc56))]; done) | (rw [if_pos (Or.inr (Or.inr zc64))]; done) | (rw [if_neg (fun q => q.elim zc50 (fun q => q.elim zc56 zc64)), if_neg (Int64.not_lt.mpr zc33)]; done) | (rw [if_neg (fun q => q.elim zc50 (fun q => q.elim zc56 zc64)), if_pos (Int64.not_le.mp zc33)]; done))
        · refine lv_lload_n hx hb dX5_imbalance_54 rfl (lvG hl rfl) ?_
          refine lv_lconst (v := lN 0) hx hb dX5_imbalance_55 (by decide) ?_
          refine j_llt (tgt := 68) hC dX5_imbalance_56 dX5_imbalance_57 (by decide) (fun zc56 => ?_) (fun zc56 => ?_)
          · refine lv_ldc (v := (-2000000004 : Int32)) hx hb hown (hts _ w_893) dX5_imbalance_68 ?_
            refine lv_goto (tgt := 84) hx hb dX5_imbalance_70 (by decide) ?_
            exact k_iret hC hr hlk dX5_imbalance_84 (by unfold s_im; rw [if_neg (fun q => q.elim zc5 zc13)]; first | (rw [if_pos (Or.inl zc50)]; done) | (rw [if_pos (Or.inr (Or.inl zc56))]; done) | (rw [if_pos (Or.inr (Or.inr zc64))]; done) | (rw [if_neg (fun q => q.elim zc50 (fun q => q.elim zc56 zc64)), if_neg (Int64.not_lt.mpr zc33)]; done) | (rw [if_neg (fun q => q.elim zc50 (fun q => q.elim zc56 zc64)), if_pos (Int64.not_le.mp zc33)]; done))
          · refine lv_lload_n hx hb dX5_imbalance_60 rfl (lvG hl rfl) ?_
            refine lv_lload_n hx hb dX5_imbalance_61 rfl (lvG hl rfl) ?_
            refine lv_ladd hx hb dX5_imbalance_62 ?_
            refine lv_lconst (v := lN 0) hx hb dX5_imbalance_63 (by decide) ?_
            refine j_lne (tgt := 73) hC dX5_imbalance_64 dX5_imbalance_65 (by decide) (fun zc64 => ?_) (fun zc64 => ?_)
            · refine lv_lload hx hb dX5_imbalance_73 (lvG hl rfl) ?_
              refine lv_ldc2 (v := (1000 : Int64)) hx hb hown (hts _ w_755) dX5_imbalance_75 ?_
              refine lv_lmul hx hb dX5_imbalance_78 ?_
              refine lv_lload_n hx hb dX5_imbalance_79 rfl (lvG hl rfl) ?_
              refine lv_lload_n hx hb dX5_imbalance_80 rfl (lvG hl rfl) ?_
              refine lv_ladd hx hb dX5_imbalance_81 ?_
              refine lv_ldiv hx hb dX5_imbalance_82 (zc64) ?_
              refine lv_l2i (v := ((((s_mp f (nI 1) cn) - (s_mp f (nI 0) cn)) * ((1000 : Int64))) / ((s_mp f (nI 0) cn) + (s_mp f (nI 1) cn))).toInt32) hx hb dX5_imbalance_83 rfl ?_
              exact k_iret hC hr hlk dX5_imbalance_84 (by unfold s_im; rw [if_neg (fun q => q.elim zc5 zc13)]; first | (rw [if_pos (Or.inl zc50)]; done) | (rw [if_pos (Or.inr (Or.inl zc56))]; done) | (rw [if_pos (Or.inr (Or.inr zc64))]; done) | (rw [if_neg (fun q => q.elim zc50 (fun q => q.elim zc56 zc64)), if_neg (Int64.not_lt.mpr zc33)]; done) | (rw [if_neg (fun q => q.elim zc50 (fun q => q.elim zc56 zc64)), if_pos (Int64.not_le.mp zc33)]; done))
            · refine lv_ldc (v := (-2000000004 : Int32)) hx hb hown (hts _ w_893) dX5_imbalance_68 ?_
              refine lv_goto (tgt := 84) hx hb dX5_imbalance_70 (by decide) ?_
              exact k_iret hC hr hlk dX5_imbalance_84 (by unfold s_im; rw [if_neg (fun q => q.elim zc5 zc13)]; first | (rw [if_pos (Or.inl zc50)]; done) | (rw [if_pos (Or.inr (Or.inl zc56))]; done) | (rw [if_pos (Or.inr (Or.inr zc64))]; done) | (rw [if_neg (fun q => q.elim zc50 (fun q => q.elim zc56 zc64)), if_neg (Int64.not_lt.mpr zc33)]; done) | (rw [if_neg (fun q => q.elim zc50 (fun q => q.elim zc56 zc64)), if_pos (Int64.not_le.mp zc33)]; done))
    · refine lv_ldc (v := (-2000000004 : Int32)) hx hb hown (hts _ w_893) dX5_imbalance_16 ?_
      exact k_iret hC hr hlk dX5_imbalance_18 (by unfold s_im; first | (rw [if_pos (Or.inl zc5)]; done) | (rw [if_pos (Or.inr zc13)]; done))
