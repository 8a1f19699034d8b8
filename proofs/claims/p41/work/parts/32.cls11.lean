def k_in (h : Nat → Int32) (v : Int32) : Nat → Nat → Int32
  | 0 => upd h 0 v
  | w + 1 => if v < h w then k_in (upd h (w + 1) (h w)) v w else upd h (w + 1) v
theorem k_in_t {h : Nat → Int32} {v : Int32} {w : Nat} (hw : 0 < w) (c : v < h (w - 1)) : k_in h v w = k_in (upd h w (h (w - 1))) v (w - 1) := by
  cases w with
  | zero => omega
  | succ w => exact if_pos c
theorem k_in_f {h : Nat → Int32} {v : Int32} {w : Nat} (c : ¬ (0 < w ∧ v < h (w - 1))) : k_in h v w = upd h w v := by
  cases w with
  | zero => rfl
  | succ w => exact if_neg (fun q => c ⟨by omega, q⟩)
theorem XTs {g : kG} {x : Nat → Nat} {tr te fo so' F : Nat → Int32} {H : Heap} (h1 : va_P g.1 kCl (wT g x tr te fo F) H) (h2 : va_D (SC x) (wT g x tr te fo F)) (hF : F = so') : XT g x tr te fo so' H := by
  subst hF
  exact ⟨h1, h2⟩
set_option maxHeartbeats 4000000 in
set_option maxRecDepth 100000 in
theorem c_X4_insertSorted (l : Launch) (g : kG) (x : Nat → Nat) (a : Nat → Nat) (n : Nat) (f : Nat → Int32) (cn : Nat) (rf : Nat → Option Nat) (tr : Nat → Int32) (te : Nat → Int32) (fo : Nat → Int32) (so : Nat → Int32) (v : Int32) (w0 : Nat) (hw : w0 < 10) : MV l yX4_insertSorted cX4_insertSorted 4 none (rr 0 0) [.ref (x 0), .int (v), .int (nI w0)] ((fun H => XB g x a n f cn rf H ∧ XT g x tr te fo so H)) g 0 0 (SC x) (fun H1 => XT g x tr te fo (k_in so v w0) H1) := by
  refine kOf (by decide) (Nat.le_of_ble_eq_true rfl) (fun p e s m below meth c ls hC hr hlk hin hK hP hl => ?_)
  have hx := hC.1
  have hb := hC.2.1
  have hml := hC.2.2.1
  have hown := hC.2.2.2.1
  have hts := hC.2.2.2.2
  have hl : lv_has ls 4 [(0, .ref (x 0)), (1, .int (v)), (2, .int (nI w0))] := hl
  obtain ⟨hB, ⟨hT, hD⟩⟩ := hP
  have hS : va_S (SC x) s.heap s.heap [] := va_S.rf
  refine lv_iload_n hx hb dX4_insertSorted_0 rfl (lvG hl rfl) ?_
  refine lv_istore_n (lv' := [(3, .int (nI w0)), (0, .ref (x 0)), (1, .int (v)), (2, .int (nI w0))]) hx hb dX4_insertSorted_1 rfl hl (by decide) rfl (fun ls hl => ?_)
  have key_1 : ∀ (k_2 : Nat) (zw : Nat) (F9 : Nat → Int32) (H9 : Heap) (locs9 : List Loc) (hT9 : va_P g.1 kCl [cI g (x 3) 21 tr, cI g (x 4) 21 ((fun k => tr (21 + k))), (x 5, .inr (2, [.int (te 0), .int (te 1), .int (te 2), .int (te 3)])), (x 6, .inr (2, [.int (fo 0), .int (fo 1), .int (fo 2), .int (fo 3)])), cI g (x 7) 10 F9] H9) (hD9 : va_D (SC x) [cI g (x 3) 21 tr, cI g (x 4) 21 ((fun k => tr (21 + k))), (x 5, .inr (2, [.int (te 0), .int (te 1), .int (te 2), .int (te 3)])), (x 6, .inr (2, [.int (fo 0), .int (fo 1), .int (fo 2), .int (fo 3)])), cI g (x 7) 10 F9]) (hS9 : va_S (SC x) s.heap H9 locs9) (hz : zw ≤ w0) (hF : k_in F9 v zw = k_in so v w0) (hk_k_2 : zw < k_2) (ls : Array Slot) (hl : lv_has ls 4 [(3, .int (nI zw)), (0, .ref (x 0)), (1, .int (v)), (2, .int (nI w0))]), W p l e (rr 0 0) s m [.ref (x 0), .int (v), .int (nI w0)].toArray below meth c H9 locs9 0 0 (MQ below (qV (SC x) (fun H1 => XT g x tr te fo (k_in so v w0) H1)) [.ref (x 0), .int (v), .int (nI w0)].toArray s 0 0 (SC x)) (F0 m 2 ls ([])) := by
    intro k_2
    induction k_2 with
    | zero => intro zw F9 H9 locs9 hT9 hD9 hS9 hz hF hk_k_2 ls hl; exact absurd hk_k_2 (Nat.not_lt_zero _)
    | succ k_2 ih_3 =>
      intro zw F9 H9 locs9 hT9 hD9 hS9 hz hF hk_k_2 ls hl
      have hB9 : XB g x a n f cn rf H9 := hB.at hS9
      refine lv_iload_n hx hb dX4_insertSorted_2 rfl (lvG hl rfl) ?_
      refine n_if_le (tgt := 38) hC dX4_insertSorted_3 (by omega) (by decide) (fun zc3 => ?_) (fun zc3 => ?_)
      · refine lv_aload_n hx hb dX4_insertSorted_38 rfl (lvG hl rfl) ?_
        refine va_get (D := g.1) (ci := 4) (v := .ref (x 7)) (C := RX4) (T := TX4) (N := 7) hx hb hts i_X4 hown hK.1 hB9.1 0 rfl rfl 6 (by decide) (hts _ w_181) (fun _ h9 => h9) rfl dX4_insertSorted_39 ?_
        refine lv_iload_n hx hb dX4_insertSorted_42 rfl (lvG hl rfl) ?_
        refine lv_iload_n hx hb dX4_insertSorted_43 rfl (lvG hl rfl) ?_
        refine k_ast (k := zw) (v := v) hC hK hT9 hD9 hS9 4 rfl (by omega) (by decide) dX4_insertSorted_44 (fun H_4 locs_5 hP_6 hD_7 hS_8 => ?_)
        have hP_6 : va_P g.1 kCl [cI g (x 3) 21 tr, cI g (x 4) 21 ((fun k => tr (21 + k))), (x 5, .inr (2, [.int (te 0), .int (te 1), .int (te 2), .int (te 3)])), (x 6, .inr (2, [.int (fo 0), .int (fo 1), .int (fo 2), .int (fo 3)])), cI g (x 7) 10 (upd F9 zw v)] H_4 := hP_6
        have hD_7 : va_D (SC x) [cI g (x 3) 21 tr, cI g (x 4) 21 ((fun k => tr (21 + k))), (x 5, .inr (2, [.int (te 0), .int (te 1), .int (te 2), .int (te 3)])), (x 6, .inr (2, [.int (fo 0), .int (fo 1), .int (fo 2), .int (fo 3)])), cI g (x 7) 10 (upd F9 zw v)] := hD_7
        have hB_9 : XB g x a n f cn rf H_4 := hB.at hS_8
        exact k_vretM hC hr hlk hS_8 dX4_insertSorted_45 (XTs hP_6 hD_7 (by rw [← hF, k_in_f (h := F9) (fun q => by first | omega | exact absurd q.2 (Int32.not_lt.mpr zc15))]))
      · refine lv_aload_n hx hb dX4_insertSorted_6 rfl (lvG hl rfl) ?_
        refine va_get (D := g.1) (ci := 4) (v := .ref (x 7)) (C := RX4) (T := TX4) (N := 7) hx hb hts i_X4 hown hK.1 hB9.1 0 rfl rfl 6 (by decide) (hts _ w_181) (fun _ h9 => h9) rfl dX4_insertSorted_7 ?_
        refine lv_iload_n hx hb dX4_insertSorted_10 rfl (lvG hl rfl) ?_
        refine lv_iconst (v := nI 1) hx hb dX4_insertSorted_11 (by decide) ?_
        refine n_isub hC dX4_insertSorted_12 (by omega) ?_
        refine k_ald (k := zw - 1) hC hK hT9 4 rfl (by omega) (by decide) dX4_insertSorted_13 ?_
        refine lv_iload_n hx hb dX4_insertSorted_14 rfl (lvG hl rfl) ?_
        refine lv_icmp_le (tgt := 38) hx hb dX4_insertSorted_15 (by decide) (fun zc15 => ?_) (fun zc15 => ?_)
        · refine lv_aload_n hx hb dX4_insertSorted_38 rfl (lvG hl rfl) ?_
          refine va_get (D := g.1) (ci := 4) (v := .ref (x 7)) (C := RX4) (T := TX4) (N := 7) hx hb hts i_X4 hown hK.1 hB9.1 0 rfl rfl 6 (by decide) (hts _ w_181) (fun _ h9 => h9) rfl dX4_insertSorted_39 ?_
          refine lv_iload_n hx hb dX4_insertSorted_42 rfl (lvG hl rfl) ?_
          refine lv_iload_n hx hb dX4_insertSorted_43 rfl (lvG hl rfl) ?_
          refine k_ast (k := zw) (v := v) hC hK hT9 hD9 hS9 4 rfl (by omega) (by decide) dX4_insertSorted_44 (fun H_10 locs_11 hP_12 hD_13 hS_14 => ?_)
          have hP_12 : va_P g.1 kCl [cI g (x 3) 21 tr, cI g (x 4) 21 ((fun k => tr (21 + k))), (x 5, .inr (2, [.int (te 0), .int (te 1), .int (te 2), .int (te 3)])), (x 6, .inr (2, [.int (fo 0), .int (fo 1), .int (fo 2), .int (fo 3)])), cI g (x 7) 10 (upd F9 zw v)] H_10 := hP_12
          have hD_13 : va_D (SC x) [cI g (x 3) 21 tr, cI g (x 4) 21 ((fun k => tr (21 + k))), (x 5, .inr (2, [.int (te 0), .int (te 1), .int (te 2), .int (te 3)])), (x 6, .inr (2, [.int (fo 0), .int (fo 1), .int (fo 2), .int (fo 3)])), cI g (x 7) 10 (upd F9 zw v)] := hD_13
          have hB_15 : XB g x a n f cn rf H_10 := hB.at hS_14
          exact k_vretM hC hr hlk hS_14 dX4_insertSorted_45 (XTs hP_12 hD_13 (by rw [← hF, k_in_f (h := F9) (fun q => by first | omega | exact absurd q.2 (Int32.not_lt.mpr zc15))]))
        · refine lv_aload_n hx hb dX4_insertSorted_18 rfl (lvG hl rfl) ?_
          refine va_get (D := g.1) (ci := 4) (v := .ref (x 7)) (C := RX4) (T := TX4) (N := 7) hx hb hts i_X4 hown hK.1 hB9.1 0 rfl rfl 6 (by decide) (hts _ w_181) (fun _ h9 => h9) rfl dX4_insertSorted_19 ?_
          refine lv_iload_n hx hb dX4_insertSorted_22 rfl (lvG hl rfl) ?_
          refine lv_aload_n hx hb dX4_insertSorted_23 rfl (lvG hl rfl) ?_
          refine va_get (D := g.1) (ci := 4) (v := .ref (x 7)) (C := RX4) (T := TX4) (N := 7) hx hb hts i_X4 hown hK.1 hB9.1 0 rfl rfl 6 (by decide) (hts _ w_181) (fun _ h9 => h9) rfl dX4_insertSorted_24 ?_
          refine lv_iload_n hx hb dX4_insertSorted_27 rfl (lvG hl rfl) ?_
          refine lv_iconst (v := nI 1) hx hb dX4_insertSorted_28 (by decide) ?_
          refine n_isub hC dX4_insertSorted_29 (by omega) ?_
          refine k_ald (k := zw - 1) hC hK hT9 4 rfl (by omega) (by decide) dX4_insertSorted_30 ?_
          refine k_ast (k := zw) (v := F9 (zw - 1)) hC hK hT9 hD9 hS9 4 rfl (by omega) (by decide) dX4_insertSorted_31 (fun H_16 locs_17 hP_18 hD_19 hS_20 => ?_)
          have hP_18 : va_P g.1 kCl [cI g (x 3) 21 tr, cI g (x 4) 21 ((fun k => tr (21 + k))), (x 5, .inr (2, [.int (te 0), .int (te 1), .int (te 2), .int (te 3)])), (x 6, .inr (2, [.int (fo 0), .int (fo 1), .int (fo 2), .int (fo 3)])), cI g (x 7) 10 (upd F9 zw (F9 (zw - 1)))] H_16 := hP_18
          have hD_19 : va_D (SC x) [cI g (x 3) 21 tr, cI g (x 4) 21 ((fun k => tr (21 + k))), (x 5, .inr (2, [.int (te 0), .int (te 1), .int (te 2), .int (te 3)])), (x 6, .inr (2, [.int (fo 0), .int (fo 1), .int (fo 2), .int (fo 3)])), cI g (x 7) 10 (upd F9 zw (F9 (zw - 1)))] := hD_19
          have hB_21 : XB g x a n f cn rf H_16 := hB.at hS_20
          have hl : lv_has ls 4 [(3, .int (nI (zw - 1 + 1))), (0, .ref (x 0)), (1, .int (v)), (2, .int (nI w0))] := lv_eq hl (by rw [show zw - 1 + 1 = zw by omega])
          refine n_idec (lv' := [(3, .int (nI (zw - 1))), (0, .ref (x 0)), (1, .int (v)), (2, .int (nI w0))]) hC dX4_insertSorted_32 hl rfl (by decide) rfl (fun ls hl => ?_)
          refine lv_goto (tgt := 2) hx hb dX4_insertSorted_35 (by decide) ?_
          exact ih_3 (zw - 1) (upd F9 zw (F9 (zw - 1))) _ _ hP_18 hD_19 hS_20 (by first | omega | assumption | rfl) (by rw [← hF, k_in_t (h := F9) (by omega) (Int32.not_le.mp zc15)]) (by omega) ls (lv_sub hl [0, 1, 2, 3] rfl)
  exact key_1 (w0 + 1) w0 so _ _ hT hD hS (by first | rfl | omega | assumption) (rfl) (Nat.lt_succ_self _) ls (lv_sub hl [0, 1, 2, 3] rfl)
def k_ms (f : Nat → Int32) (en : Int32) (so : Nat → Int32) : Nat → Nat → Int32
  | 0 => so
  | j + 1 => if f (62 + 44 * j) = en then k_in (k_ms f en so j) (s_A f j) (s_mn f en j) else k_ms f en so j
theorem mn_mono (f : Nat → Int32) (en : Int32) : ∀ k, s_mn f en k ≤ s_mn f en (k + 1) := fun k => by conv => { rhs; unfold s_mn }; omega
def k_mdn (f : Nat → Int32) (en : Int32) (so : Nat → Int32) (cn : Nat) : Int32 := if s_mn f en cn = 0 then nI 0 else k_ms f en so cn ((s_mn f en cn - 1) / 2)
theorem L_X4_X4_insertSorted : LnkV RX4 346 yX4_insertSorted cX4_insertSorted 4 none 2 := ⟨w_609, w_611, w_23, w_25, w_612, ⟨by decide +kernel, by decide +kernel⟩, by decide +kernel⟩
set_option maxHeartbeats 4000000 in
set_option maxRecDepth 100000 in
theorem c_X4_medianArea (l : Launch) (g : kG) (x : Nat → Nat) (a : Nat → Nat) (n : Nat) (f : Nat → Int32) (cn : Nat) (rf : Nat → Option Nat) (tr : Nat → Int32) (te : Nat → Int32) (fo : Nat → Int32) (so : Nat → Int32) (hc : f 61 = nI cn) (hcn : cn ≤ 10) (en : Int32) : MI l yX4_medianArea cX4_medianArea 4 (some .int) (rr 2 43) [.ref (x 0), .int (en)] ((fun H => XB g x a n f cn rf H ∧ XT g x tr te fo so H)) g 0 0 (SC x) (fun r H1 => r = k_mdn f en so cn ∧ XS g x H1) := by
  refine kOf (by decide) (Nat.le_of_ble_eq_true rfl) (fun p e s m below meth c ls hC hr hlk hin hK hP hl => ?_)
  have hx := hC.1
  have hb := hC.2.1
  have hml := hC.2.2.1
  have hown := hC.2.2.2.1
  have hts := hC.2.2.2.2
  have hl : lv_has ls 4 [(0, .ref (x 0)), (1, .int (en))] := hl
  obtain ⟨hB, ⟨hT, hD⟩⟩ := hP
  have hS : va_S (SC x) s.heap s.heap [] := va_S.rf
  refine lv_iconst (v := nI 0) hx hb dX4_medianArea_0 (by decide) ?_
  refine lv_istore_n (lv' := [(2, .int (nI 0)), (0, .ref (x 0)), (1, .int (en))]) hx hb dX4_medianArea_1 rfl hl (by decide) rfl (fun ls hl => ?_)
  refine lv_iconst (v := nI 0) hx hb dX4_medianArea_2 (by decide) ?_
  refine lv_istore_n (lv' := [(3, .int (nI 0)), (2, .int (nI 0)), (0, .ref (x 0)), (1, .int (en))]) hx hb dX4_medianArea_3 rfl hl (by decide) rfl (fun ls hl => ?_)
  have key_1 : ∀ (k_2 : Nat) (zi : Nat) (zn : Nat) (F9 : Nat → Int32) (H9 : Heap) (locs9 : List Loc) (hT9 : va_P g.1 kCl [cI g (x 3) 21 tr, cI g (x 4) 21 ((fun k => tr (21 + k))), (x 5, .inr (2, [.int (te 0), .int (te 1), .int (te 2), .int (te 3)])), (x 6, .inr (2, [.int (fo 0), .int (fo 1), .int (fo 2), .int (fo 3)])), cI g (x 7) 10 F9] H9) (hD9 : va_D (SC x) [cI g (x 3) 21 tr, cI g (x 4) 21 ((fun k => tr (21 + k))), (x 5, .inr (2, [.int (te 0), .int (te 1), .int (te 2), .int (te 3)])), (x 6, .inr (2, [.int (fo 0), .int (fo 1), .int (fo 2), .int (fo 3)])), cI g (x 7) 10 F9]) (hS9 : va_S (SC x) s.heap H9 locs9) (hi : zi ≤ cn) (hn : zn = s_mn f en zi) (hF : F9 = k_ms f en so zi) (hk_k_2 : cn - zi < k_2) (ls : Array Slot) (hl : lv_has ls 4 [(3, .int (nI zi)), (2, .int (nI zn)), (0, .ref (x 0)), (1, .int (en))]), W p l e (rr 2 43) s m [.ref (x 0), .int (en)].toArray below meth c H9 locs9 0 0 (MQ below (qI (SC x) (fun r H1 => r = k_mdn f en so cn ∧ XS g x H1)) [.ref (x 0), .int (en)].toArray s 0 0 (SC x)) (F0 m 4 ls ([])) := by
    intro k_2
    induction k_2 with
    | zero => intro zi zn F9 H9 locs9 hT9 hD9 hS9 hi hn hF hk_k_2 ls hl; exact absurd hk_k_2 (Nat.not_lt_zero _)
    | succ k_2 ih_3 =>
      intro zi zn F9 H9 locs9 hT9 hD9 hS9 hi hn hF hk_k_2 ls hl
      have hB9 : XB g x a n f cn rf H9 := hB.at hS9
      have hmn := s_mn_le f en zi
      refine lv_iload_n hx hb dX4_medianArea_4 rfl (lvG hl rfl) ?_
      refine lv_aload_n hx hb dX4_medianArea_5 rfl (lvG hl rfl) ?_
      refine va_get (D := g.1) (ci := 4) (v := .ref (a 0)) (C := RX4) (T := TX4) (N := 7) hx hb hts i_X4 hown hK.1 hB9.1 0 rfl rfl 0 (by decide) (hts _ w_175) (fun _ h9 => h9) rfl dX4_medianArea_6 ?_
      refine va_get (D := g.1) (ci := 3) (v := .int (f 61)) (C := RX3) (T := TX3) (N := 13) hx hb hts i_X3 hown hK.1 hB9.1 1 rfl rfl 12 (by decide) (hts _ w_146) (fun _ h9 => h9) rfl dX4_medianArea_9 ?_
      rw [hc]
      refine n_icmp_ge (tgt := 57) hC dX4_medianArea_12 (by omega) (by omega) (by decide) (fun zc12 => ?_) (fun zc12 => ?_)
      · refine lv_iload_n hx hb dX4_medianArea_57 rfl (lvG hl rfl) ?_
        refine n_if_ne (tgt := 65) hC dX4_medianArea_58 (by omega) (by decide) (fun zc58 => ?_) (fun zc58 => ?_)
        · refine lv_aload_n hx hb dX4_medianArea_65 rfl (lvG hl rfl) ?_
          refine va_get (D := g.1) (ci := 4) (v := .ref (x 7)) (C := RX4) (T := TX4) (N := 7) hx hb hts i_X4 hown hK.1 hB9.1 0 rfl rfl 6 (by decide) (hts _ w_181) (fun _ h9 => h9) rfl dX4_medianArea_66 ?_
          refine lv_iload_n hx hb dX4_medianArea_69 rfl (lvG hl rfl) ?_
          refine lv_iconst (v := nI 1) hx hb dX4_medianArea_70 (by decide) ?_
          refine n_isub hC dX4_medianArea_71 (by omega) ?_
          refine lv_iconst (v := nI 2) hx hb dX4_medianArea_72 (by decide) ?_
          refine n_idiv hC dX4_medianArea_73 (by omega) (by omega) (by omega) ?_
          refine k_ald (k := (zn - 1) / 2) hC hK hT9 4 rfl (by omega) (by decide) dX4_medianArea_74 ?_
          exact k_iretM hC hr hlk hS9 dX4_medianArea_75 (⟨by unfold k_mdn; rw [← show zi = cn by omega, ← hn, ← hF]; first | (rw [if_pos zc58]; done) | (rw [if_neg zc58]; done), XTS ⟨hT9, hD9⟩⟩)
        · refine lv_iconst (v := nI 0) hx hb dX4_medianArea_61 (by decide) ?_
          refine lv_goto (tgt := 75) hx hb dX4_medianArea_62 (by decide) ?_
          exact k_iretM hC hr hlk hS9 dX4_medianArea_75 (⟨by unfold k_mdn; rw [← show zi = cn by omega, ← hn, ← hF]; first | (rw [if_pos zc58]; done) | (rw [if_neg zc58]; done), XTS ⟨hT9, hD9⟩⟩)
      · obtain ⟨qj, qoj, qij, hrf, hcd, hn1, hn2, hn3⟩ := hB9.2.2 zi (by first | assumption | omega)
        refine lv_aload_n hx hb dX4_medianArea_15 rfl (lvG hl rfl) ?_
        refine va_get (D := g.1) (ci := 4) (v := .ref (a 0)) (C := RX4) (T := TX4) (N := 7) hx hb hts i_X4 hown hK.1 hB9.1 0 rfl rfl 0 (by decide) (hts _ w_175) (fun _ h9 => h9) rfl dX4_medianArea_16 ?_
        refine va_get (D := g.1) (ci := 3) (v := .ref (a 6)) (C := RX3) (T := TX3) (N := 13) hx hb hts i_X3 hown hK.1 hB9.1 1 rfl rfl 11 (by decide) (hts _ w_144) (fun _ h9 => h9) rfl dX4_medianArea_19 ?_
        refine lv_iload_n hx hb dX4_medianArea_22 rfl (lvG hl rfl) ?_
        refine q_ald (k := zi) (b := qj) hC hK hB9.1 4 rfl (by omega) (by decide) (hrf) dX4_medianArea_23 ?_
        refine va_get (D := g.1) (ci := 0) (v := .int (f (62 + 44 * zi))) (C := RX0) (T := TX0) (N := 4) hx hb hts i_X0 hown hK.1 hcd 0 rfl rfl 0 (by decide) (hts _ w_46) (fun _ h9 => h9) rfl dX4_medianArea_24 ?_
        refine lv_iload_n hx hb dX4_medianArea_27 rfl (lvG hl rfl) ?_
        refine lv_icmp_ne (tgt := 51) hx hb dX4_medianArea_28 (by decide) (fun zc28 => ?_) (fun zc28 => ?_)
        · refine n_iinc (lv' := [(3, .int (nI (zi + 1))), (2, .int (nI zn)), (0, .ref (x 0)), (1, .int (en))]) hC dX4_medianArea_51 hl rfl (by decide) rfl (fun ls hl => ?_)
          refine lv_goto (tgt := 4) hx hb dX4_medianArea_54 (by decide) ?_
          exact ih_3 (zi + 1) zn F9 _ _ hT9 hD9 hS9 (by first | omega | assumption | rfl) (by unfold s_mn; rw [← hn]; first | (rw [if_pos zc28]; done) | (rw [if_neg zc28]; rfl)) (by unfold k_ms; rw [← hF, ← hn]; first | (rw [if_pos zc28]; done) | (rw [if_neg zc28]; done)) (by omega) ls (lv_sub hl [0, 1, 2, 3] rfl)
        · refine lv_aload_n hx hb dX4_medianArea_31 rfl (lvG hl rfl) ?_
          refine lv_aload_n hx hb dX4_medianArea_32 rfl (lvG hl rfl) ?_
          refine va_get (D := g.1) (ci := 4) (v := .ref (a 0)) (C := RX4) (T := TX4) (N := 7) hx hb hts i_X4 hown hK.1 hB9.1 0 rfl rfl 0 (by decide) (hts _ w_175) (fun _ h9 => h9) rfl dX4_medianArea_33 ?_
          refine va_get (D := g.1) (ci := 3) (v := .ref (a 6)) (C := RX3) (T := TX3) (N := 13) hx hb hts i_X3 hown hK.1 hB9.1 1 rfl rfl 11 (by decide) (hts _ w_144) (fun _ h9 => h9) rfl dX4_medianArea_36 ?_
          refine lv_iload_n hx hb dX4_medianArea_39 rfl (lvG hl rfl) ?_
          refine q_ald (k := zi) (b := qj) hC hK hB9.1 4 rfl (by omega) (by decide) (hrf) dX4_medianArea_40 ?_
          refine k_callPI (k_goV (rest := [.ref (x 0)]) hC hK (c_X0_wholeArea l g qj qoj qij (f (62 + 44 * zi)) (f (62 + 44 * zi + 1)) ((s_pt f zi))) L_X4_X0_wholeArea (⟨⟨Nat.le_of_ble_eq_true rfl, Nat.le_of_ble_eq_true rfl⟩, ⟨rfl, rfl⟩, ⟨Nat.le_of_ble_eq_true rfl, Nat.le_of_ble_eq_true rfl⟩⟩) (k_recv hK hcd 0 rfl rfl) (hcd) rfl hl.1 rfl (Nat.le_of_ble_eq_true rfl) dX4_medianArea_41) ?_
          refine lv_iload_n hx hb dX4_medianArea_44 rfl (lvG hl rfl) ?_
          refine k_callMV0 (k_goV (rest := []) hC hK (c_X4_insertSorted l g x a n f cn rf tr te fo F9 (s_ar ((s_pt f zi)) 20) zn (by first | assumption | omega)) L_X4_X4_insertSorted (⟨⟨Nat.le_of_ble_eq_true rfl, Nat.le_of_ble_eq_true rfl⟩, ⟨rfl, rfl⟩, ⟨Nat.le_of_ble_eq_true rfl, Nat.le_of_ble_eq_true rfl⟩⟩) (k_recv hK hB9.1 0 rfl rfl) (⟨hB9, ⟨hT9, hD9⟩⟩) rfl hl.1 rfl (Nat.le_of_ble_eq_true rfl) dX4_medianArea_45) hS9 (fun _ h => h) (fun H_4 locs_5 hQ_6 hz_ hk_8 hS_7 => ?_)
          obtain ⟨hT_9, hD_10⟩ := hQ_6
          have hB_11 : XB g x a n f cn rf H_4 := hB.at hS_7
          refine n_iinc (lv' := [(2, .int (nI (zn + 1))), (3, .int (nI zi)), (0, .ref (x 0)), (1, .int (en))]) hC dX4_medianArea_48 hl rfl (by decide) rfl (fun ls hl => ?_)
          refine n_iinc (lv' := [(3, .int (nI (zi + 1))), (2, .int (nI (zn + 1))), (0, .ref (x 0)), (1, .int (en))]) hC dX4_medianArea_51 hl rfl (by decide) rfl (fun ls hl => ?_)
          refine lv_goto (tgt := 4) hx hb dX4_medianArea_54 (by decide) ?_
          exact ih_3 (zi + 1) (zn + 1) ((k_in F9 (s_ar ((s_pt f zi)) 20) zn)) _ _ hT_9 hD_10 hS_7 (by first | omega | assumption | rfl) (by unfold s_mn; rw [← hn]; first | (rw [if_pos zc28]; done) | (rw [if_neg zc28]; rfl)) (by unfold k_ms; rw [← hF, ← hn]; first | (rw [if_pos zc28]; done) | (rw [if_neg zc28]; done)) (by omega) ls (lv_sub hl [0, 1, 2, 3] rfl)
  exact key_1 ((cn - 0) + 1) 0 0 so _ _ hT hD hS (by first | rfl | omega | assumption) (rfl) (rfl) (Nat.lt_succ_self _) ls (lv_sub hl [0, 1, 2, 3] rfl)
