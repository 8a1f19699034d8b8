def s_rmG (f : Nat → Int32) (j i : Nat) : Nat → Int32 := s_fl f (62 + 44 * j) (fun t => f (62 + 44 * j + t + 44)) i
def s_rmU (f : Nat → Int32) (j cn : Nat) : Nat → Int32 := upd (s_rmG f j (44 * (cn - 1 - j))) 61 (nI (cn - 1))
set_option maxHeartbeats 4000000 in
set_option maxRecDepth 100000 in
theorem c_X5_remove (l : Launch) (g : kG) (o : Nat) (q : Nat) (f : Nat → Int32) (n : Nat) (j : Nat) (cn : Nat) (hc : f 61 = nI cn) (hcn : cn ≤ 10) (hj : j < cn) : MV l yX5_remove cX5_remove 3 none (rr 1 20) [.ref o, .int (nI j)] ((RP g o q f n)) g 0 0 (RA o q) (fun H1 => RP g o q (s_rmU f j cn) (n) H1) := by
  refine kOf (by decide) (Nat.le_of_ble_eq_true rfl) (fun p e s m below meth c ls hC hr hlk hin hK hP hl => ?_)
  have hx := hC.1
  have hb := hC.2.1
  have hml := hC.2.2.1
  have hown := hC.2.2.2.1
  have hts := hC.2.2.2.2
  have hl : lv_has ls 3 [(0, .ref o), (1, .int (nI j))] := hl
  have hS : va_S (RA o q) s.heap s.heap [] := va_S.rf
  refine lv_iload_n hx hb dX5_remove_0 rfl (lvG hl rfl) ?_
  refine k_callPI (k_goS (rest := []) hC hK (c_X5_endAt l g j) L_X5_X5_endAt (⟨⟨Nat.le_of_ble_eq_true rfl, Nat.le_of_ble_eq_true rfl⟩, ⟨rfl, rfl⟩, ⟨Nat.le_of_ble_eq_true rfl, Nat.le_of_ble_eq_true rfl⟩⟩) (trivial) rfl hl.1 rfl (Nat.le_of_ble_eq_true rfl) dX5_remove_1) ?_
  refine lv_istore_n (lv' := [(2, .int (nI (62 + 44 * j))), (0, .ref o), (1, .int (nI j))]) hx hb dX5_remove_4 rfl hl (by decide) rfl (fun ls hl => ?_)
  have key_1 : ∀ (k_2 : Nat) (i : Nat) (F : Nat → Int32) (H_l5 : Heap) (locs_l5 : List Loc) (hP_l5 : RP g o q F n H_l5) (hS_l5 : va_S (RA o q) s.heap H_l5 locs_l5) (hi : i ≤ 44 * (cn - 1 - j)) (hF : F = s_rmG f j i) (hk_k_2 : 44 * (cn - 1 - j) - i < k_2) (ls : Array Slot) (hl : lv_has ls 3 [(2, .int (nI (62 + 44 * j + i))), (0, .ref o), (1, .int (nI j))]), W p l e (rr 1 20) s m [.ref o, .int (nI j)].toArray below meth c H_l5 locs_l5 0 0 (MQ below (qV (RA o q) (fun H1 => RP g o q (s_rmU f j cn) (n) H1)) [.ref o, .int (nI j)].toArray s 0 0 (RA o q)) (F0 m 5 ls ([])) := by
    intro k_2
    induction k_2 with
    | zero => intro i F H_l5 locs_l5 hP_l5 hS_l5 hi hF hk_k_2 ls hl; exact absurd hk_k_2 (Nat.not_lt_zero _)
    | succ k_2 ih_3 =>
      intro i F H_l5 locs_l5 hP_l5 hS_l5 hi hF hk_k_2 ls hl
      refine lv_iload_n hx hb dX5_remove_5 rfl (lvG hl rfl) ?_
      refine lv_aload_n hx hb dX5_remove_6 rfl (lvG hl rfl) ?_
      refine r_row hC hK hP_l5 dX5_remove_7 ?_
      refine lv_bipush (v := nI 61) hx hb dX5_remove_10 (by decide) ?_
      refine r_ald (k := 61) hC hK hP_l5 (by omega) dX5_remove_12 ?_
      rw [show F 61 = nI cn by rw [hF]; unfold s_rmG; rw [s_fl_out _ _ _ _ _ (by omega), hc]]
      refine lv_iconst (v := nI 1) hx hb dX5_remove_13 (by decide) ?_
      refine n_isub hC dX5_remove_14 (by omega) ?_
      refine k_callPI (k_goS (rest := [.int (nI (62 + 44 * j + i))]) hC hK (c_X5_endAt l g (cn - 1)) L_X5_X5_endAt (⟨⟨Nat.le_of_ble_eq_true rfl, Nat.le_of_ble_eq_true rfl⟩, ⟨rfl, rfl⟩, ⟨Nat.le_of_ble_eq_true rfl, Nat.le_of_ble_eq_true rfl⟩⟩) (trivial) rfl hl.1 rfl (Nat.le_of_ble_eq_true rfl) dX5_remove_15) ?_
      refine n_icmp_ge (tgt := 42) hC dX5_remove_18 (by omega) (by omega) (by decide) (fun zc18 => ?_) (fun zc18 => ?_)
      · refine lv_aload_n hx hb dX5_remove_42 rfl (lvG hl rfl) ?_
        refine r_row hC hK hP_l5 dX5_remove_43 ?_
        refine lv_bipush (v := nI 61) hx hb dX5_remove_46 (by decide) ?_
        refine lv_dup2_11 hx hb dX5_remove_48 rfl rfl ?_
        refine r_ald (k := 61) hC hK hP_l5 (by omega) dX5_remove_49 ?_
        rw [show F 61 = nI cn by rw [hF]; unfold s_rmG; rw [s_fl_out _ _ _ _ _ (by omega), hc]]
        refine lv_iconst (v := nI 1) hx hb dX5_remove_50 (by decide) ?_
        refine n_isub hC dX5_remove_51 (by omega) ?_
        refine r_ast (k := 61) hC hK hP_l5 hS_l5 (by omega) dX5_remove_52 (fun H_4 locs_5 hP_6 hS_7 => ?_)
        exact k_vretM hC hr hlk hS_7 dX5_remove_53 (by unfold s_rmU; rw [hF, show i = 44 * (cn - 1 - j) by omega] at hP_6; exact hP_6)
      · refine lv_aload_n hx hb dX5_remove_21 rfl (lvG hl rfl) ?_
        refine r_row hC hK hP_l5 dX5_remove_22 ?_
        refine lv_iload_n hx hb dX5_remove_25 rfl (lvG hl rfl) ?_
        refine lv_aload_n hx hb dX5_remove_26 rfl (lvG hl rfl) ?_
        refine r_row hC hK hP_l5 dX5_remove_27 ?_
        refine lv_iload_n hx hb dX5_remove_30 rfl (lvG hl rfl) ?_
        refine lv_bipush (v := nI 44) hx hb dX5_remove_31 (by decide) ?_
        refine n_iadd hC dX5_remove_33 ?_
        refine r_ald (k := 62 + 44 * j + i + 44) hC hK hP_l5 (by omega) dX5_remove_34 ?_
        refine r_ast (k := 62 + 44 * j + i) hC hK hP_l5 hS_l5 (by omega) dX5_remove_35 (fun H_8 locs_9 hP_10 hS_11 => ?_)
        refine n_iinc (lv' := [(2, .int (nI (62 + 44 * j + i + 1))), (0, .ref o), (1, .int (nI j))]) hC dX5_remove_36 hl rfl (by decide) rfl (fun ls hl => ?_)
        refine lv_goto (tgt := 5) hx hb dX5_remove_39 (by decide) ?_
        exact ih_3 (i + 1) (upd F (62 + 44 * j + i) (F (62 + 44 * j + i + 44))) _ _ hP_10 hS_11 (by first | omega | assumption | rfl) (by rw [show F (62 + 44 * j + i + 44) = f (62 + 44 * j + i + 44) by rw [hF]; exact s_fl_out _ _ _ _ _ (by omega), hF]; exact s_fl_succ _ _ (fun t => f (62 + 44 * j + t + 44)) i) (by omega) ls (lv_sub hl [0, 1, 2] rfl)
  exact key_1 ((44 * (cn - 1 - j) - 0) + 1) 0 f _ _ hP hS (by first | rfl | omega | assumption) ((s_fl_0 _ _ _).symm) (Nat.lt_succ_self _) ls (lv_sub hl [0, 1, 2] rfl)
def s_rcF (f : Nat → Int32) (n cn : Nat) (v : Int32) : Nat → Int32 := if s_okC f v then s_rmU (s_rec f n) v.toNatClampNeg cn else f
def s_rcN (f : Nat → Int32) (n : Nat) (v : Int32) : Nat := if s_okC f v then s_recn n else n
def s_rcR (f : Nat → Int32) (cn : Nat) (v : Int32) : Int32 := if s_okC f v then nI (cn - 1) else cINV
theorem L_X5_X5_remove : LnkV RX5 75 yX5_remove cX5_remove 3 none 1 := ⟨w_764, w_766, w_34, w_60, w_767, ⟨by decide +kernel, by decide +kernel⟩, by decide +kernel⟩
set_option maxHeartbeats 4000000 in
set_option maxRecDepth 100000 in
theorem c_X5_removeCard (l : Launch) (g : kG) (o : Nat) (q : Nat) (f : Nat → Int32) (n : Nat) (v : Int32) (cn : Nat) (hc : f 61 = nI cn) (hcn : cn ≤ 10) : MI l yX5_removeCard cX5_removeCard 2 (some .int) (rr 2 44) [.ref o, .int (v)] ((RP g o q f n)) g 0 0 (RA o q) (fun r H1 => r = s_rcR f cn v ∧ RP g o q (s_rcF f n cn v) (s_rcN f n v) H1) := by
  refine kOf (by decide) (Nat.le_of_ble_eq_true rfl) (fun p e s m below meth c ls hC hr hlk hin hK hP hl => ?_)
  have hx := hC.1
  have hb := hC.2.1
  have hml := hC.2.2.1
  have hown := hC.2.2.2.1
  have hts := hC.2.2.2.2
  have hl : lv_has ls 2 [(0, .ref o), (1, .int (v))] := hl
  have hS : va_S (RA o q) s.heap s.heap [] := va_S.rf
  refine lv_aload_n hx hb dX5_removeCard_0 rfl (lvG hl rfl) ?_
  refine lv_iload_n hx hb dX5_removeCard_1 rfl (lvG hl rfl) ?_
  refine k_callPI (k_goV (rest := []) hC hK (c_X5_isCard l g o q f n v) L_X5_X5_isCard (⟨⟨Nat.le_of_ble_eq_true rfl, Nat.le_of_ble_eq_true rfl⟩, ⟨rfl, rfl⟩, ⟨Nat.le_of_ble_eq_true rfl, Nat.le_of_ble_eq_true rfl⟩⟩) (hP.recv hK) (hP) rfl hl.1 rfl (Nat.le_of_ble_eq_true rfl) dX5_removeCard_2) ?_
  refine b_ifne (tgt := 11) hC dX5_removeCard_5 (by decide) (fun zc5 => ?_) (fun zc5 => ?_)
  · obtain ⟨j, h_j, ev_j⟩ := in_card (v := v) hcn hc (zc5)
    have e_j : (v).toNatClampNeg = j := by rw [ev_j]; exact nI_clamp (by omega)
    have hl : lv_has ls 2 [(0, .ref o), (1, .int (nI j))] := lv_eq hl (by rw [ev_j])
    refine lv_aload_n hx hb dX5_removeCard_11 rfl (lvG hl rfl) ?_
    refine k_callMV0 (k_goV (rest := []) hC hK (c_X5_record l g o q f n) L_X5_X5_record (⟨⟨Nat.le_of_ble_eq_true rfl, Nat.le_of_ble_eq_true rfl⟩, ⟨rfl, rfl⟩, ⟨Nat.le_of_ble_eq_true rfl, Nat.le_of_ble_eq_true rfl⟩⟩) (hP.recv hK) (hP) rfl hl.1 rfl (Nat.le_of_ble_eq_true rfl) dX5_removeCard_12) hS (fun _ h => h) (fun H_1 locs_2 hP_3 _ _ hS_4 => ?_)
    refine lv_aload_n hx hb dX5_removeCard_15 rfl (lvG hl rfl) ?_
    refine lv_iload_n hx hb dX5_removeCard_16 rfl (lvG hl rfl) ?_
    refine k_callMV0 (k_goV (rest := []) hC hK (c_X5_remove l g o q (s_rec f n) (s_recn n) j (cn) (by rw [s_rec_lo _ _ (by omega), hc]) (by first | assumption | omega) (by first | assumption | omega)) L_X5_X5_remove (⟨⟨Nat.le_of_ble_eq_true rfl, Nat.le_of_ble_eq_true rfl⟩, ⟨rfl, rfl⟩, ⟨Nat.le_of_ble_eq_true rfl, Nat.le_of_ble_eq_true rfl⟩⟩) (hP_3.recv hK) (hP_3) rfl hl.1 rfl (Nat.le_of_ble_eq_true rfl) dX5_removeCard_17) hS_4 (fun _ h => h) (fun H_5 locs_6 hP_7 _ _ hS_8 => ?_)
    refine lv_aload_n hx hb dX5_removeCard_20 rfl (lvG hl rfl) ?_
    refine r_row hC hK hP_7 dX5_removeCard_21 ?_
    refine lv_bipush (v := nI 61) hx hb dX5_removeCard_24 (by decide) ?_
    refine r_ald (k := 61) hC hK hP_7 (by omega) dX5_removeCard_26 ?_
    exact k_iretM hC hr hlk hS_8 dX5_removeCard_27 (by unfold s_rcR s_rcF s_rcN; rw [if_pos zc5, if_pos zc5, if_pos zc5, e_j]; exact ⟨upd_at _ _ _, hP_7⟩)
  · refine lv_ldc (v := (-2000000001 : Int32)) hx hb hown (hts _ w_669) dX5_removeCard_8 ?_
    exact k_iretM hC hr hlk hS dX5_removeCard_10 (by unfold s_rcR s_rcF s_rcN; rw [if_neg zc5, if_neg zc5, if_neg zc5]; exact ⟨rfl, hP⟩)
def s_dk (f : Nat → Int32) (va vc vr lk : Int32) : Nat → Int64 × Int32
  | 0 => ((f 4).toInt64 * (f 0 + vc).toInt64, f 4)
  | i + 1 => if nI i < va then s_dk f va vc vr lk i else if nI i ≤ vc then s_dk f va vc vr lk i else if nI i < vr then ((s_dk f va vc vr lk i).1 + s_quo ((s_dk f va vc vr lk i).1 * lk.toInt64) (1000 : Int64), (((s_dk f va vc vr lk i).1 + s_quo ((s_dk f va vc vr lk i).1 * lk.toInt64) (1000 : Int64)) / (f 0 + nI i).toInt64).toInt32) else s_dk f va vc vr lk i
def s_do (f : Nat → Int32) (va vc vr lk : Int32) (i : Nat) : Int32 := if nI i < va then f 5 else if nI i ≤ vc then f 4 else if nI i < vr then (s_dk f va vc vr lk (i + 1)).2 else (s_dk f va vc vr lk i).2 + (s_quo ((f 5 - (s_dk f va vc vr lk i).2).toInt64 * (nI i - vr + nI 1).toInt64) (nI 21 - vr).toInt64).toInt32
def s_di (f : Nat → Int32) (vm : Int32) (i : Nat) : Int32 := if nI i < vm then f 5 * (f 0 + vm) / (f 0 + nI i) else f 5
def s_dw (f ho hi : Nat → Int32) (i : Nat) : Nat → Int32 := s_fl (s_fl f 2510 ho i) 2531 hi i
theorem s_dw_0 (f ho hi : Nat → Int32) : s_dw f ho hi 0 = f := by unfold s_dw; rw [s_fl_0, s_fl_0]
theorem s_dw_lo (f ho hi : Nat → Int32) (i : Nat) {j : Nat} (h : j < 2510) : s_dw f ho hi i j = f j := by unfold s_dw; rw [s_fl_out _ _ _ _ _ (by omega), s_fl_out _ _ _ _ _ (by omega)]
theorem s_dw_succ (f ho hi : Nat → Int32) {i : Nat} (h : i < 21) : upd (upd (s_dw f ho hi i) (2510 + i) (ho i)) (2531 + i) (hi i) = s_dw f ho hi (i + 1) := by
  unfold s_dw
  have h1 : upd (s_fl (s_fl f 2510 ho i) 2531 hi i) (2510 + i) (ho i) = s_fl (s_fl f 2510 ho (i + 1)) 2531 hi i := by
    rw [← s_fl_succ f 2510 ho i]
    funext j
    show (if j = 2510 + i then ho i else s_fl (s_fl f 2510 ho i) 2531 hi i j) = (if 2531 ≤ j ∧ j < 2531 + i then hi (j - 2531) else if j = 2510 + i then ho i else s_fl f 2510 ho i j)
    by_cases e : j = 2510 + i
    · rw [if_pos e, if_neg (by omega), if_pos e]
    · rw [if_neg e, if_neg e]
      rfl
  rw [h1, s_fl_succ]
def s_drU (f : Nat → Int32) (va vc vr vm lk : Int32) : Nat → Int32 := s_dw f (s_do f va vc vr lk) (s_di f vm) 21
/-- the volumes aren't 0 -/
def s_vol (f : Nat → Int32) : Prop := ∀ i, i < 21 → ¬ (f 0 + nI i) = 0 ∧ ¬ (f 0 + nI i).toInt64 = 0
section DK
variable {f : Nat → Int32} {va vc vr lk : Int32} {i : Nat}
theorem dk_a (h1 : nI i < va) : s_dk f va vc vr lk (i + 1) = s_dk f va vc vr lk i := by conv => { lhs; unfold s_dk }; rw [if_pos h1]
theorem dk_c (h1 : va ≤ nI i) (h2 : nI i ≤ vc) : s_dk f va vc vr lk (i + 1) = s_dk f va vc vr lk i := by conv => { lhs; unfold s_dk }; rw [if_neg (Int32.not_lt.mpr h1), if_pos h2]
theorem dk_x (h1 : va ≤ nI i) (h2 : vc < nI i) (h3 : nI i < vr) : s_dk f va vc vr lk (i + 1) = ((s_dk f va vc vr lk i).1 + s_quo ((s_dk f va vc vr lk i).1 * lk.toInt64) (1000 : Int64), (((s_dk f va vc vr lk i).1 + s_quo ((s_dk f va vc vr lk i).1 * lk.toInt64) (1000 : Int64)) / (f 0 + nI i).toInt64).toInt32) := by conv => { lhs; unfold s_dk }; rw [if_neg (Int32.not_lt.mpr h1), if_neg (Int32.not_le.mpr h2), if_pos h3]
theorem dk_r (h1 : va ≤ nI i) (h2 : vc < nI i) (h3 : vr ≤ nI i) : s_dk f va vc vr lk (i + 1) = s_dk f va vc vr lk i := by conv => { lhs; unfold s_dk }; rw [if_neg (Int32.not_lt.mpr h1), if_neg (Int32.not_le.mpr h2), if_neg (Int32.not_lt.mpr h3)]
theorem do_a (h1 : nI i < va) : s_do f va vc vr lk i = f 5 := by unfold s_do; rw [if_pos h1]
theorem do_c (h1 : va ≤ nI i) (h2 : nI i ≤ vc) : s_do f va vc vr lk i = f 4 := by unfold s_do; rw [if_neg (Int32.not_lt.mpr h1), if_pos h2]
theorem do_x (h1 : va ≤ nI i) (h2 : vc < nI i) (h3 : nI i < vr) : s_do f va vc vr lk i = (((s_dk f va vc vr lk i).1 + s_quo ((s_dk f va vc vr lk i).1 * lk.toInt64) (1000 : Int64)) / (f 0 + nI i).toInt64).toInt32 := by unfold s_do; rw [if_neg (Int32.not_lt.mpr h1), if_neg (Int32.not_le.mpr h2), if_pos h3, dk_x h1 h2 h3]
theorem do_r (h1 : va ≤ nI i) (h2 : vc < nI i) (h3 : vr ≤ nI i) : s_do f va vc vr lk i = (s_dk f va vc vr lk i).2 + (s_quo ((f 5 - (s_dk f va vc vr lk i).2).toInt64 * (nI i - vr + nI 1).toInt64) (nI 21 - vr).toInt64).toInt32 := by unfold s_do; rw [if_neg (Int32.not_lt.mpr h1), if_neg (Int32.not_le.mpr h2), if_neg (Int32.not_lt.mpr h3)]
theorem di_t {vm : Int32} (h : nI i < vm) : s_di f vm i = f 5 * (f 0 + vm) / (f 0 + nI i) := if_pos h
theorem di_f {vm : Int32} (h : vm ≤ nI i) : s_di f vm i = f 5 := if_neg (Int32.not_lt.mpr h)
end DK
theorem L_X5_X5_volume : LnkV RX5 60 yX5_volume cX5_volume 2 (some .int) 1 := ⟨w_751, w_753, w_32, w_60, w_754, ⟨by decide +kernel, by decide +kernel⟩, by decide +kernel⟩
set_option maxHeartbeats 4000000 in
set_option maxRecDepth 100000 in
theorem c_X5_draw (l : Launch) (g : kG) (o : Nat) (q : Nat) (f : Nat → Int32) (n : Nat) (va : Int32) (vc : Int32) (vr : Int32) (vm : Int32) (lk : Int32) (hv : s_vol f) (hr0 : ∀ i, i < 21 → ¬ nI i < va → ¬ nI i ≤ vc → ¬ nI i < vr → ¬ (nI 21 - vr).toInt64 = 0) : MV l yX5_draw cX5_draw 11 none (rr 1 23) [.ref o, .int (va), .int (vc), .int (vr), .int (vm), .int (lk)] ((RP g o q f n)) g 0 0 (RA o q) (fun H1 => RP g o q (s_drU f va vc vr vm lk) (n) H1) := by
  refine kOf (by decide) (Nat.le_of_ble_eq_true rfl) (fun p e s m below meth c ls hC hr hlk hin hK hP hl => ?_)
  have hx := hC.1
  have hb := hC.2.1
  have hml := hC.2.2.1
  have hown := hC.2.2.2.1
  have hts := hC.2.2.2.2
  have hl : lv_has ls 11 [(0, .ref o), (1, .int (va)), (2, .int (vc)), (3, .int (vr)), (4, .int (vm)), (5, .int (lk))] := hl
  have hS : va_S (RA o q) s.heap s.heap [] := va_S.rf
  refine lv_aload_n hx hb dX5_draw_0 rfl (lvG hl rfl) ?_
  refine r_row hC hK hP dX5_draw_1 ?_
  refine lv_iconst (v := nI 5) hx hb dX5_draw_4 (by decide) ?_
  refine r_ald (k := 5) hC hK hP (by omega) dX5_draw_5 ?_
  refine lv_istore (lv' := [(6, .int (f 5)), (0, .ref o), (1, .int (va)), (2, .int (vc)), (3, .int (vr)), (4, .int (vm)), (5, .int (lk))]) hx hb dX5_draw_6 hl (by decide) rfl (fun ls hl => ?_)
  refine lv_aload_n hx hb dX5_draw_8 rfl (lvG hl rfl) ?_
  refine r_row hC hK hP dX5_draw_9 ?_
  refine lv_iconst (v := nI 4) hx hb dX5_draw_12 (by decide) ?_
  refine r_ald (k := 4) hC hK hP (by omega) dX5_draw_13 ?_
  refine lv_i2l (v := (f 4).toInt64) hx hb dX5_draw_14 rfl ?_
  refine lv_aload_n hx hb dX5_draw_15 rfl (lvG hl rfl) ?_
  refine lv_iload_n hx hb dX5_draw_16 rfl (lvG hl rfl) ?_
  refine k_callPI (k_goV (rest := [.long ((f 4).toInt64)]) hC hK (c_X5_volume l g o q f n vc) L_X5_X5_volume (⟨⟨Nat.le_of_ble_eq_true rfl, Nat.le_of_ble_eq_true rfl⟩, ⟨rfl, rfl⟩, ⟨Nat.le_of_ble_eq_true rfl, Nat.le_of_ble_eq_true rfl⟩⟩) (hP.recv hK) (hP) rfl hl.1 rfl (Nat.le_of_ble_eq_true rfl) dX5_draw_17) ?_
  refine lv_i2l (v := (f 0 + vc).toInt64) hx hb dX5_draw_20 rfl ?_
  refine lv_lmul hx hb dX5_draw_21 ?_
  refine lv_lstore (lv' := [(7, .long (((f 4).toInt64) * ((f 0 + vc).toInt64))), (6, .int (f 5)), (0, .ref o), (1, .int (va)), (2, .int (vc)), (3, .int (vr)), (4, .int (vm)), (5, .int (lk))]) hx hb dX5_draw_22 hl (by decide) rfl (fun ls hl => ?_)
  refine lv_aload_n hx hb dX5_draw_24 rfl (lvG hl rfl) ?_
  refine r_row hC hK hP dX5_draw_25 ?_
  refine lv_iconst (v := nI 4) hx hb dX5_draw_28 (by decide) ?_
  refine r_ald (k := 4) hC hK hP (by omega) dX5_draw_29 ?_
  refine lv_istore (lv' := [(9, .int (f 4)), (7, .long (((f 4).toInt64) * ((f 0 + vc).toInt64))), (6, .int (f 5)), (0, .ref o), (1, .int (va)), (2, .int (vc)), (3, .int (vr)), (4, .int (vm)), (5, .int (lk))]) hx hb dX5_draw_30 hl (by decide) rfl (fun ls hl => ?_)
  refine lv_iconst (v := nI 0) hx hb dX5_draw_32 (by decide) ?_
  refine lv_istore (lv' := [(10, .int (nI 0)), (9, .int (f 4)), (7, .long (((f 4).toInt64) * ((f 0 + vc).toInt64))), (6, .int (f 5)), (0, .ref o), (1, .int (va)), (2, .int (vc)), (3, .int (vr)), (4, .int (vm)), (5, .int (lk))]) hx hb dX5_draw_33 hl (by decide) rfl (fun ls hl => ?_)
  have key_1 : ∀ (k_2 : Nat) (i : Nat) (ee : Int32) (kk : Int64) (F : Nat → Int32) (H_l35 : Heap) (locs_l35 : List Loc) (hP_l35 : RP g o q F n H_l35) (hS_l35 : va_S (RA o q) s.heap H_l35 locs_l35) (hi : i ≤ 21) (hk : kk = (s_dk f va vc vr lk i).1) (he : ee = (s_dk f va vc vr lk i).2) (hF : F = s_dw f (s_do f va vc vr lk) (s_di f vm) i) (hk_k_2 : 21 - i < k_2) (ls : Array Slot) (hl : lv_has ls 11 [(10, .int (nI i)), (9, .int (ee)), (7, .long (kk)), (6, .int (f 5)), (0, .ref o), (1, .int (va)), (2, .int (vc)), (3, .int (vr)), (4, .int (vm)), (5, .int (lk))]), W p l e (rr 1 23) s m [.ref o, .int (va), .int (vc), .int (vr), .int (vm), .int (lk)].toArray below meth c H_l35 locs_l35 0 0 (MQ below (qV (RA o q) (fun H1 => RP g o q (s_drU f va vc vr vm lk) (n) H1)) [.ref o, .int (va), .int (vc), .int (vr), .int (vm), .int (lk)].toArray s 0 0 (RA o q)) (F0 m 35 ls ([])) := by
    intro k_2
    induction k_2 with
    | zero => intro i ee kk F H_l35 locs_l35 hP_l35 hS_l35 hi hk he hF hk_k_2 ls hl; exact absurd hk_k_2 (Nat.not_lt_zero _)
    | succ k_2 ih_3 =>
      intro i ee kk F H_l35 locs_l35 hP_l35 hS_l35 hi hk he hF hk_k_2 ls hl
      have hf0 : F 0 = f 0 := by rw [hF]; exact s_dw_lo _ _ _ _ (by omega)
      refine lv_iload hx hb dX5_draw_35 (lvG hl rfl) ?_
      refine lv_bipush (v := nI 21) hx hb dX5_draw_37 (by decide) ?_
      refine n_icmp_ge (tgt := 224) hC dX5_draw_39 (by omega) (by omega) (by decide) (fun zc39 => ?_) (fun zc39 => ?_)
      · exact k_vretM hC hr hlk hS_l35 dX5_draw_224 (by unfold s_drU; rw [hF, show i = 21 by omega] at hP_l35; exact hP_l35)
      · refine lv_iload hx hb dX5_draw_42 (lvG hl rfl) ?_
        refine lv_iload_n hx hb dX5_draw_44 rfl (lvG hl rfl) ?_
        refine lv_icmp_ge (tgt := 64) hx hb dX5_draw_45 (by decide) (fun zc45 => ?_) (fun zc45 => ?_)
        · refine lv_iload hx hb dX5_draw_64 (lvG hl rfl) ?_
          refine lv_iload_n hx hb dX5_draw_66 rfl (lvG hl rfl) ?_
          refine lv_icmp_gt (tgt := 90) hx hb dX5_draw_67 (by decide) (fun zc67 => ?_) (fun zc67 => ?_)
          · refine lv_iload hx hb dX5_draw_90 (lvG hl rfl) ?_
            refine lv_iload_n hx hb dX5_draw_92 rfl (lvG hl rfl) ?_
            refine lv_icmp_ge (tgt := 142) hx hb dX5_draw_93 (by decide) (fun zc93 => ?_) (fun zc93 => ?_)
            · refine lv_aload_n hx hb dX5_draw_142 rfl (lvG hl rfl) ?_
              refine r_row hC hK hP_l35 dX5_draw_143 ?_
              refine lv_sipush (v := nI 2510) hx hb dX5_draw_146 (by decide) ?_
              refine lv_iload hx hb dX5_draw_149 (lvG hl rfl) ?_
              refine n_iadd hC dX5_draw_151 ?_
              refine lv_iload hx hb dX5_draw_152 (lvG hl rfl) ?_
              refine lv_iload hx hb dX5_draw_154 (lvG hl rfl) ?_
              refine lv_iload hx hb dX5_draw_156 (lvG hl rfl) ?_
              refine lv_isub hx hb dX5_draw_158 ?_
              refine lv_i2l (v := ((f 5) - ee).toInt64) hx hb dX5_draw_159 rfl ?_
              refine lv_iload hx hb dX5_draw_160 (lvG hl rfl) ?_
              refine lv_iload_n hx hb dX5_draw_162 rfl (lvG hl rfl) ?_
              refine lv_isub hx hb dX5_draw_163 ?_
              refine lv_iconst (v := nI 1) hx hb dX5_draw_164 (by decide) ?_
              refine lv_iadd hx hb dX5_draw_165 ?_
              refine lv_i2l (v := (((nI i) - vr) + (nI 1)).toInt64) hx hb dX5_draw_166 rfl ?_
              refine lv_lmul hx hb dX5_draw_167 ?_
              refine lv_bipush (v := nI 21) hx hb dX5_draw_168 (by decide) ?_
              refine lv_iload_n hx hb dX5_draw_170 rfl (lvG hl rfl) ?_
              refine lv_isub hx hb dX5_draw_171 ?_
              refine lv_i2l (v := ((nI 21) - vr).toInt64) hx hb dX5_draw_172 rfl ?_
              refine k_callPL (k_goS (rest := [.int (ee), .int (nI (2510 + i)), .ref q]) hC hK (c_X5_quotient l g ((((f 5) - ee).toInt64) * ((((nI i) - vr) + (nI 1)).toInt64)) (((nI 21) - vr).toInt64) (hr0 i (by omega) (Int32.not_lt.mpr zc45) (Int32.not_le.mpr zc67) (Int32.not_lt.mpr zc93))) L_X5_X5_quotient (⟨⟨Nat.le_of_ble_eq_true rfl, Nat.le_of_ble_eq_true rfl⟩, ⟨rfl, rfl⟩, ⟨Nat.le_of_ble_eq_true rfl, Nat.le_of_ble_eq_true rfl⟩⟩) (trivial) rfl hl.1 rfl (Nat.le_of_ble_eq_true rfl) dX5_draw_173) ?_
              refine lv_l2i (v := (s_quo ((((f 5) - ee).toInt64) * ((((nI i) - vr) + (nI 1)).toInt64)) (((nI 21) - vr).toInt64)).toInt32) hx hb dX5_draw_176 rfl ?_
              refine lv_iadd hx hb dX5_draw_177 ?_
              refine r_ast (k := 2510 + i) hC hK hP_l35 hS_l35 (by omega) dX5_draw_178 (fun H_4 locs_5 hP_6 hS_7 => ?_)
              refine lv_aload_n hx hb dX5_draw_179 rfl (lvG hl rfl) ?_
              refine r_row hC hK hP_6 dX5_draw_180 ?_
              refine lv_sipush (v := nI 2531) hx hb dX5_draw_183 (by decide) ?_
              refine lv_iload hx hb dX5_draw_186 (lvG hl rfl) ?_
              refine n_iadd hC dX5_draw_188 ?_
              refine lv_iload hx hb dX5_draw_189 (lvG hl rfl) ?_
              refine lv_iload hx hb dX5_draw_191 (lvG hl rfl) ?_
              refine lv_icmp_ge (tgt := 215) hx hb dX5_draw_193 (by decide) (fun zc193 => ?_) (fun zc193 => ?_)
              · refine lv_iload hx hb dX5_draw_215 (lvG hl rfl) ?_
                refine r_ast (k := 2531 + i) hC hK hP_6 hS_7 (by omega) dX5_draw_217 (fun H_8 locs_9 hP_10 hS_11 => ?_)
                refine n_iinc (lv' := [(10, .int (nI (i + 1))), (9, .int (ee)), (7, .long (kk)), (6, .int (f 5)), (0, .ref o), (1, .int (va)), (2, .int (vc)), (3, .int (vr)), (4, .int (vm)), (5, .int (lk))]) hC dX5_draw_218 hl rfl (by decide) rfl (fun ls hl => ?_)
                refine lv_goto (tgt := 35) hx hb dX5_draw_221 (by decide) ?_
                exact ih_3 (i + 1) ee kk (upd (upd F (2510 + i) (ee + ((s_quo ((((f 5) - ee).toInt64) * ((((nI i) - vr) + (nI 1)).toInt64)) (((nI 21) - vr).toInt64)).toInt32))) (2531 + i) (f 5)) _ _ hP_10 hS_11 (by first | omega | assumption | rfl) (by first | (rw [hk, dk_a (Int32.not_le.mp zc45)]; done) | (rw [hk, dk_c zc45 (Int32.not_lt.mp zc67)]; done) | (rw [hk, dk_r zc45 zc67 zc93]; done) | (rw [dk_x zc45 zc67 (Int32.not_le.mp zc93), ← hk]; done)) (by first | (rw [he, dk_a (Int32.not_le.mp zc45)]; done) | (rw [he, dk_c zc45 (Int32.not_lt.mp zc67)]; done) | (rw [he, dk_r zc45 zc67 zc93]; done) | (rw [dk_x zc45 zc67 (Int32.not_le.mp zc93), ← hk]; done)) (by rw [← s_dw_succ _ _ _ (show i < 21 by omega)]; first | (rw [do_a (Int32.not_le.mp zc45), di_t (Int32.not_le.mp zc193), ← hF]; done) | (rw [do_c zc45 (Int32.not_lt.mp zc67), di_t (Int32.not_le.mp zc193), ← hF]; done) | (rw [do_x zc45 zc67 (Int32.not_le.mp zc93), di_t (Int32.not_le.mp zc193), ← hk, ← hF]; done) | (rw [do_r zc45 zc67 zc93, di_t (Int32.not_le.mp zc193), ← he, ← hF]; done) | (rw [do_a (Int32.not_le.mp zc45), di_f zc193, ← hF]; done) | (rw [do_c zc45 (Int32.not_lt.mp zc67), di_f zc193, ← hF]; done) | (rw [do_x zc45 zc67 (Int32.not_le.mp zc93), di_f zc193, ← hk, ← hF]; done) | (rw [do_r zc45 zc67 zc93, di_f zc193, ← he, ← hF]; done)) (by omega) ls (lv_sub hl [0, 1, 2, 3, 4, 5, 6, 7, 8, 9] rfl)
              · refine lv_iload hx hb dX5_draw_196 (lvG hl rfl) ?_
                refine lv_aload_n hx hb dX5_draw_198 rfl (lvG hl rfl) ?_
                refine lv_iload hx hb dX5_draw_199 (lvG hl rfl) ?_
                refine k_callPI (k_goV (rest := [.int (f 5), .int (nI (2531 + i)), .ref q]) hC hK (c_X5_volume l g o q (upd F (2510 + i) (ee + ((s_quo ((((f 5) - ee).toInt64) * ((((nI i) - vr) + (nI 1)).toInt64)) (((nI 21) - vr).toInt64)).toInt32))) n vm) L_X5_X5_volume (⟨⟨Nat.le_of_ble_eq_true rfl, Nat.le_of_ble_eq_true rfl⟩, ⟨rfl, rfl⟩, ⟨Nat.le_of_ble_eq_true rfl, Nat.le_of_ble_eq_true rfl⟩⟩) (hP_6.recv hK) (hP_6) rfl hl.1 rfl (Nat.le_of_ble_eq_true rfl) dX5_draw_201) ?_
                rw [show (upd F (2510 + i) (ee + ((s_quo ((((f 5) - ee).toInt64) * ((((nI i) - vr) + (nI 1)).toInt64)) (((nI 21) - vr).toInt64)).toInt32))) 0 = f 0 by rw [upd_ne _ _ _ _ (by omega), hf0]]
                refine lv_imul hx hb dX5_draw_204 ?_
                refine lv_aload_n hx hb dX5_draw_205 rfl (lvG hl rfl) ?_
                refine lv_iload hx hb dX5_draw_206 (lvG hl rfl) ?_
                refine k_callPI (k_goV (rest := [.int ((f 5) * (f 0 + vm)), .int (nI (2531 + i)), .ref q]) hC hK (c_X5_volume l g o q (upd F (2510 + i) (ee + ((s_quo ((((f 5) - ee).toInt64) * ((((nI i) - vr) + (nI 1)).toInt64)) (((nI 21) - vr).toInt64)).toInt32))) n (nI i)) L_X5_X5_volume (⟨⟨Nat.le_of_ble_eq_true rfl, Nat.le_of_ble_eq_true rfl⟩, ⟨rfl, rfl⟩, ⟨Nat.le_of_ble_eq_true rfl, Nat.le_of_ble_eq_true rfl⟩⟩) (hP_6.recv hK) (hP_6) rfl hl.1 rfl (Nat.le_of_ble_eq_true rfl) dX5_draw_208) ?_
                rw [show (upd F (2510 + i) (ee + ((s_quo ((((f 5) - ee).toInt64) * ((((nI i) - vr) + (nI 1)).toInt64)) (((nI 21) - vr).toInt64)).toInt32))) 0 = f 0 by rw [upd_ne _ _ _ _ (by omega), hf0]]
                refine lv_idiv hx hb dX5_draw_211 ((hv i (by omega)).1) ?_
                refine lv_goto (tgt := 217) hx hb dX5_draw_212 (by decide) ?_
                refine r_ast (k := 2531 + i) hC hK hP_6 hS_7 (by omega) dX5_draw_217 (fun H_12 locs_13 hP_14 hS_15 => ?_)
                refine n_iinc (lv' := [(10, .int (nI (i + 1))), (9, .int (ee)), (7, .long (kk)), (6, .int (f 5)), (0, .ref o), (1, .int (va)), (2, .int (vc)), (3, .int (vr)), (4, .int (vm)), (5, .int (lk))]) hC dX5_draw_218 hl rfl (by decide) rfl (fun ls hl => ?_)
                refine lv_goto (tgt := 35) hx hb dX5_draw_221 (by decide) ?_
                exact ih_3 (i + 1) ee kk (upd (upd F (2510 + i) (ee + ((s_quo ((((f 5) - ee).toInt64) * ((((nI i) - vr) + (nI 1)).toInt64)) (((nI 21) - vr).toInt64)).toInt32))) (2531 + i) (((f 5) * (f 0 + vm)) / (f 0 + nI i))) _ _ hP_14 hS_15 (by first | omega | assumption | rfl) (by first | (rw [hk, dk_a (Int32.not_le.mp zc45)]; done) | (rw [hk, dk_c zc45 (Int32.not_lt.mp zc67)]; done) | (rw [hk, dk_r zc45 zc67 zc93]; done) | (rw [dk_x zc45 zc67 (Int32.not_le.mp zc93), ← hk]; done)) (by first | (rw [he, dk_a (Int32.not_le.mp zc45)]; done) | (rw [he, dk_c zc45 (Int32.not_lt.mp zc67)]; done) | (rw [he, dk_r zc45 zc67 zc93]; done) | (rw [dk_x zc45 zc67 (Int32.not_le.mp zc93), ← hk]; done)) (by rw [← s_dw_succ _ _ _ (show i < 21 by omega)]; first | (rw [do_a (Int32.not_le.mp zc45), di_t (Int32.not_le.mp zc193), ← hF]; done) | (rw [do_c zc45 (Int32.not_lt.mp zc67), di_t (Int32.not_le.mp zc193), ← hF]; done) | (rw [do_x zc45 zc67 (Int32.not_le.mp zc93), di_t (Int32.not_le.mp zc193), ← hk, ← hF]; done) | (rw [do_r zc45 zc67 zc93, di_t (Int32.not_le.mp zc193), ← he, ← hF]; done) | (rw [do_a (Int32.not_le.mp zc45), di_f zc193, ← hF]; done) | (rw [do_c zc45 (Int32.not_lt.mp zc67), di_f zc193, ← hF]; done) | (rw [do_x zc45 zc67 (Int32.not_le.mp zc93), di_f zc193, ← hk, ← hF]; done) | (rw [do_r zc45 zc67 zc93, di_f zc193, ← he, ← hF]; done)) (by omega) ls (lv_sub hl [0, 1, 2, 3, 4, 5, 6, 7, 8, 9] rfl)
            · refine lv_lload hx hb dX5_draw_96 (lvG hl rfl) ?_
              refine lv_lload hx hb dX5_draw_98 (lvG hl rfl) ?_
              refine lv_iload hx hb dX5_draw_100 (lvG hl rfl) ?_
              refine lv_i2l (v := (lk).toInt64) hx hb dX5_draw_102 rfl ?_
              refine lv_lmul hx hb dX5_draw_103 ?_
              refine lv_ldc2 (v := (1000 : Int64)) hx hb hown (hts _ w_755) dX5_draw_104 ?_
              refine k_callPL (k_goS (rest := [.long (kk)]) hC hK (c_X5_quotient l g (kk * ((lk).toInt64)) ((1000 : Int64)) (by decide)) L_X5_X5_quotient (⟨⟨Nat.le_of_ble_eq_true rfl, Nat.le_of_ble_eq_true rfl⟩, ⟨rfl, rfl⟩, ⟨Nat.le_of_ble_eq_true rfl, Nat.le_of_ble_eq_true rfl⟩⟩) (trivial) rfl hl.1 rfl (Nat.le_of_ble_eq_true rfl) dX5_draw_107) ?_
              refine lv_ladd hx hb dX5_draw_110 ?_
              refine lv_lstore (lv' := [(7, .long (kk + (s_quo (kk * ((lk).toInt64)) ((1000 : Int64))))), (10, .int (nI i)), (9, .int (ee)), (6, .int (f 5)), (0, .ref o), (1, .int (va)), (2, .int (vc)), (3, .int (vr)), (4, .int (vm)), (5, .int (lk))]) hx hb dX5_draw_111 hl (by decide) rfl (fun ls hl => ?_)
              refine lv_lload hx hb dX5_draw_113 (lvG hl rfl) ?_
              refine lv_aload_n hx hb dX5_draw_115 rfl (lvG hl rfl) ?_
              refine lv_iload hx hb dX5_draw_116 (lvG hl rfl) ?_
              refine k_callPI (k_goV (rest := [.long (kk + (s_quo (kk * ((lk).toInt64)) ((1000 : Int64))))]) hC hK (c_X5_volume l g o q F n (nI i)) L_X5_X5_volume (⟨⟨Nat.le_of_ble_eq_true rfl, Nat.le_of_ble_eq_true rfl⟩, ⟨rfl, rfl⟩, ⟨Nat.le_of_ble_eq_true rfl, Nat.le_of_ble_eq_true rfl⟩⟩) (hP_l35.recv hK) (hP_l35) rfl hl.1 rfl (Nat.le_of_ble_eq_true rfl) dX5_draw_118) ?_
              rw [hf0]
              refine lv_i2l (v := (f 0 + nI i).toInt64) hx hb dX5_draw_121 rfl ?_
              refine lv_ldiv hx hb dX5_draw_122 ((hv i (by omega)).2) ?_
              refine lv_l2i (v := ((kk + (s_quo (kk * ((lk).toInt64)) ((1000 : Int64)))) / ((f 0 + nI i).toInt64)).toInt32) hx hb dX5_draw_123 rfl ?_
              refine lv_istore (lv' := [(9, .int (((kk + (s_quo (kk * ((lk).toInt64)) ((1000 : Int64)))) / ((f 0 + nI i).toInt64)).toInt32)), (7, .long (kk + (s_quo (kk * ((lk).toInt64)) ((1000 : Int64))))), (10, .int (nI i)), (6, .int (f 5)), (0, .ref o), (1, .int (va)), (2, .int (vc)), (3, .int (vr)), (4, .int (vm)), (5, .int (lk))]) hx hb dX5_draw_124 hl (by decide) rfl (fun ls hl => ?_)
              refine lv_aload_n hx hb dX5_draw_126 rfl (lvG hl rfl) ?_
              refine r_row hC hK hP_l35 dX5_draw_127 ?_
              refine lv_sipush (v := nI 2510) hx hb dX5_draw_130 (by decide) ?_
              refine lv_iload hx hb dX5_draw_133 (lvG hl rfl) ?_
              refine n_iadd hC dX5_draw_135 ?_
              refine lv_iload hx hb dX5_draw_136 (lvG hl rfl) ?_
              refine r_ast (k := 2510 + i) hC hK hP_l35 hS_l35 (by omega) dX5_draw_138 (fun H_16 locs_17 hP_18 hS_19 => ?_)
              refine lv_goto (tgt := 179) hx hb dX5_draw_139 (by decide) ?_
              refine lv_aload_n hx hb dX5_draw_179 rfl (lvG hl rfl) ?_
              refine r_row hC hK hP_18 dX5_draw_180 ?_
              refine lv_sipush (v := nI 2531) hx hb dX5_draw_183 (by decide) ?_
              refine lv_iload hx hb dX5_draw_186 (lvG hl rfl) ?_
              refine n_iadd hC dX5_draw_188 ?_
              refine lv_iload hx hb dX5_draw_189 (lvG hl rfl) ?_
              refine lv_iload hx hb dX5_draw_191 (lvG hl rfl) ?_
              refine lv_icmp_ge (tgt := 215) hx hb dX5_draw_193 (by decide) (fun zc193 => ?_) (fun zc193 => ?_)
              · refine lv_iload hx hb dX5_draw_215 (lvG hl rfl) ?_
                refine r_ast (k := 2531 + i) hC hK hP_18 hS_19 (by omega) dX5_draw_217 (fun H_20 locs_21 hP_22 hS_23 => ?_)
                refine n_iinc (lv' := [(10, .int (nI (i + 1))), (9, .int (((kk + (s_quo (kk * ((lk).toInt64)) ((1000 : Int64)))) / ((f 0 + nI i).toInt64)).toInt32)), (7, .long (kk + (s_quo (kk * ((lk).toInt64)) ((1000 : Int64))))), (6, .int (f 5)), (0, .ref o), (1, .int (va)), (2, .int (vc)), (3, .int (vr)), (4, .int (vm)), (5, .int (lk))]) hC dX5_draw_218 hl rfl (by decide) rfl (fun ls hl => ?_)
                refine lv_goto (tgt := 35) hx hb dX5_draw_221 (by decide) ?_
                exact ih_3 (i + 1) (((kk + (s_quo (kk * ((lk).toInt64)) ((1000 : Int64)))) / ((f 0 + nI i).toInt64)).toInt32) (kk + (s_quo (kk * ((lk).toInt64)) ((1000 : Int64)))) (upd (upd F (2510 + i) (((kk + (s_quo (kk * ((lk).toInt64)) ((1000 : Int64)))) / ((f 0 + nI i).toInt64)).toInt32)) (2531 + i) (f 5)) _ _ hP_22 hS_23 (by first | omega | assumption | rfl) (by first | (rw [hk, dk_a (Int32.not_le.mp zc45)]; done) | (rw [hk, dk_c zc45 (Int32.not_lt.mp zc67)]; done) | (rw [hk, dk_r zc45 zc67 zc93]; done) | (rw [dk_x zc45 zc67 (Int32.not_le.mp zc93), ← hk]; done)) (by first | (rw [he, dk_a (Int32.not_le.mp zc45)]; done) | (rw [he, dk_c zc45 (Int32.not_lt.mp zc67)]; done) | (rw [he, dk_r zc45 zc67 zc93]; done) | (rw [dk_x zc45 zc67 (Int32.not_le.mp zc93), ← hk]; done)) (by rw [← s_dw_succ _ _ _ (show i < 21 by omega)]; first | (rw [do_a (Int32.not_le.mp zc45), di_t (Int32.not_le.mp zc193), ← hF]; done) | (rw [do_c zc45 (Int32.not_lt.mp zc67), di_t (Int32.not_le.mp zc193), ← hF]; done) | (rw [do_x zc45 zc67 (Int32.not_le.mp zc93), di_t (Int32.not_le.mp zc193), ← hk, ← hF]; done) | (rw [do_r zc45 zc67 zc93, di_t (Int32.not_le.mp zc193), ← he, ← hF]; done) | (rw [do_a (Int32.not_le.mp zc45), di_f zc193, ← hF]; done) | (rw [do_c zc45 (Int32.not_lt.mp zc67), di_f zc193, ← hF]; done) | (rw [do_x zc45 zc67 (Int32.not_le.mp zc93), di_f zc193, ← hk, ← hF]; done) | (rw [do_r zc45 zc67 zc93, di_f zc193, ← he, ← hF]; done)) (by omega) ls (lv_sub hl [0, 1, 2, 3, 4, 5, 6, 7, 8, 9] rfl)
              · refine lv_iload hx hb dX5_draw_196 (lvG hl rfl) ?_
                refine lv_aload_n hx hb dX5_draw_198 rfl (lvG hl rfl) ?_
                refine lv_iload hx hb dX5_draw_199 (lvG hl rfl) ?_
                refine k_callPI (k_goV (rest := [.int (f 5), .int (nI (2531 + i)), .ref q]) hC hK (c_X5_volume l g o q (upd F (2510 + i) (((kk + (s_quo (kk * ((lk).toInt64)) ((1000 : Int64)))) / ((f 0 + nI i).toInt64)).toInt32)) n vm) L_X5_X5_volume (⟨⟨Nat.le_of_ble_eq_true rfl, Nat.le_of_ble_eq_true rfl⟩, ⟨rfl, rfl⟩, ⟨Nat.le_of_ble_eq_true rfl, Nat.le_of_ble_eq_true rfl⟩⟩) (hP_18.recv hK) (hP_18) rfl hl.1 rfl (Nat.le_of_ble_eq_true rfl) dX5_draw_201) ?_
                rw [show (upd F (2510 + i) (((kk + (s_quo (kk * ((lk).toInt64)) ((1000 : Int64)))) / ((f 0 + nI i).toInt64)).toInt32)) 0 = f 0 by rw [upd_ne _ _ _ _ (by omega), hf0]]
                refine lv_imul hx hb dX5_draw_204 ?_
                refine lv_aload_n hx hb dX5_draw_205 rfl (lvG hl rfl) ?_
                refine lv_iload hx hb dX5_draw_206 (lvG hl rfl) ?_
                refine k_callPI (k_goV (rest := [.int ((f 5) * (f 0 + vm)), .int (nI (2531 + i)), .ref q]) hC hK (c_X5_volume l g o q (upd F (2510 + i) (((kk + (s_quo (kk * ((lk).toInt64)) ((1000 : Int64)))) / ((f 0 + nI i).toInt64)).toInt32)) n (nI i)) L_X5_X5_volume (⟨⟨Nat.le_of_ble_eq_true rfl, Nat.le_of_ble_eq_true rfl⟩, ⟨rfl, rfl⟩, ⟨Nat.le_of_ble_eq_true rfl, Nat.le_of_ble_eq_true rfl⟩⟩) (hP_18.recv hK) (hP_18) rfl hl.1 rfl (Nat.le_of_ble_eq_true rfl) dX5_draw_208) ?_
                rw [show (upd F (2510 + i) (((kk + (s_quo (kk * ((lk).toInt64)) ((1000 : Int64)))) / ((f 0 + nI i).toInt64)).toInt32)) 0 = f 0 by rw [upd_ne _ _ _ _ (by omega), hf0]]
                refine lv_idiv hx hb dX5_draw_211 ((hv i (by omega)).1) ?_
                refine lv_goto (tgt := 217) hx hb dX5_draw_212 (by decide) ?_
                refine r_ast (k := 2531 + i) hC hK hP_18 hS_19 (by omega) dX5_draw_217 (fun H_24 locs_25 hP_26 hS_27 => ?_)
                refine n_iinc (lv' := [(10, .int (nI (i + 1))), (9, .int (((kk + (s_quo (kk * ((lk).toInt64)) ((1000 : Int64)))) / ((f 0 + nI i).toInt64)).toInt32)), (7, .long (kk + (s_quo (kk * ((lk).toInt64)) ((1000 : Int64))))), (6, .int (f 5)), (0, .ref o), (1, .int (va)), (2, .int (vc)), (3, .int (vr)), (4, .int (vm)), (5, .int (lk))]) hC dX5_draw_218 hl rfl (by decide) rfl (fun ls hl => ?_)
                refine lv_goto (tgt := 35) hx hb dX5_draw_221 (by decide) ?_
                exact ih_3 (i + 1) (((kk + (s_quo (kk * ((lk).toInt64)) ((1000 : Int64)))) / ((f 0 + nI i).toInt64)).toInt32) (kk + (s_quo (kk * ((lk).toInt64)) ((1000 : Int64)))) (upd (upd F (2510 + i) (((kk + (s_quo (kk * ((lk).toInt64)) ((1000 : Int64)))) / ((f 0 + nI i).toInt64)).toInt32)) (2531 + i) (((f 5) * (f 0 + vm)) / (f 0 + nI i))) _ _ hP_26 hS_27 (by first | omega | assumption | rfl) (by first | (rw [hk, dk_a (Int32.not_le.mp zc45)]; done) | (rw [hk, dk_c zc45 (Int32.not_lt.mp zc67)]; done) | (rw [hk, dk_r zc45 zc67 zc93]; done) | (rw [dk_x zc45 zc67 (Int32.not_le.mp zc93), ← hk]; done)) (by first | (rw [he, dk_a (Int32.not_le.mp zc45)]; done) | (rw [he, dk_c zc45 (Int32.not_lt.mp zc67)]; done) | (rw [he, dk_r zc45 zc67 zc93]; done) | (rw [dk_x zc45 zc67 (Int32.not_le.mp zc93), ← hk]; done)) (by rw [← s_dw_succ _ _ _ (show i < 21 by omega)]; first | (rw [do_a (Int32.not_le.mp zc45), di_t (Int32.not_le.mp zc193), ← hF]; done) | (rw [do_c zc45 (Int32.not_lt.mp zc67), di_t (Int32.not_le.mp zc193), ← hF]; done) | (rw [do_x zc45 zc67 (Int32.not_le.mp zc93), di_t (Int32.not_le.mp zc193), ← hk, ← hF]; done) | (rw [do_r zc45 zc67 zc93, di_t (Int32.not_le.mp zc193), ← he, ← hF]; done) | (rw [do_a (Int32.not_le.mp zc45), di_f zc193, ← hF]; done) | (rw [do_c zc45 (Int32.not_lt.mp zc67), di_f zc193, ← hF]; done) | (rw [do_x zc45 zc67 (Int32.not_le.mp zc93), di_f zc193, ← hk, ← hF]; done) | (rw [do_r zc45 zc67 zc93, di_f zc193, ← he, ← hF]; done)) (by omega) ls (lv_sub hl [0, 1, 2, 3, 4, 5, 6, 7, 8, 9] rfl)
          · refine lv_aload_n hx hb dX5_draw_70 rfl (lvG hl rfl) ?_
            refine r_row hC hK hP_l35 dX5_draw_71 ?_
            refine lv_sipush (v := nI 2510) hx hb dX5_draw_74 (by decide) ?_
            refine lv_iload hx hb dX5_draw_77 (lvG hl rfl) ?_
            refine n_iadd hC dX5_draw_79 ?_
            refine lv_aload_n hx hb dX5_draw_80 rfl (lvG hl rfl) ?_
            refine r_row hC hK hP_l35 dX5_draw_81 ?_
            refine lv_iconst (v := nI 4) hx hb dX5_draw_84 (by decide) ?_
            refine r_ald (k := 4) hC hK hP_l35 (by omega) dX5_draw_85 ?_
            rw [show F 4 = f 4 by rw [hF]; exact s_dw_lo _ _ _ _ (by omega)]
            refine r_ast (k := 2510 + i) hC hK hP_l35 hS_l35 (by omega) dX5_draw_86 (fun H_28 locs_29 hP_30 hS_31 => ?_)
            refine lv_goto (tgt := 179) hx hb dX5_draw_87 (by decide) ?_
            refine lv_aload_n hx hb dX5_draw_179 rfl (lvG hl rfl) ?_
            refine r_row hC hK hP_30 dX5_draw_180 ?_
            refine lv_sipush (v := nI 2531) hx hb dX5_draw_183 (by decide) ?_
            refine lv_iload hx hb dX5_draw_186 (lvG hl rfl) ?_
            refine n_iadd hC dX5_draw_188 ?_
            refine lv_iload hx hb dX5_draw_189 (lvG hl rfl) ?_
            refine lv_iload hx hb dX5_draw_191 (lvG hl rfl) ?_
            refine lv_icmp_ge (tgt := 215) hx hb dX5_draw_193 (by decide) (fun zc193 => ?_) (fun zc193 => ?_)
            · refine lv_iload hx hb dX5_draw_215 (lvG hl rfl) ?_
              refine r_ast (k := 2531 + i) hC hK hP_30 hS_31 (by omega) dX5_draw_217 (fun H_32 locs_33 hP_34 hS_35 => ?_)
              refine n_iinc (lv' := [(10, .int (nI (i + 1))), (9, .int (ee)), (7, .long (kk)), (6, .int (f 5)), (0, .ref o), (1, .int (va)), (2, .int (vc)), (3, .int (vr)), (4, .int (vm)), (5, .int (lk))]) hC dX5_draw_218 hl rfl (by decide) rfl (fun ls hl => ?_)
              refine lv_goto (tgt := 35) hx hb dX5_draw_221 (by decide) ?_
              exact ih_3 (i + 1) ee kk (upd (upd F (2510 + i) (f 4)) (2531 + i) (f 5)) _ _ hP_34 hS_35 (by first | omega | assumption | rfl) (by first | (rw [hk, dk_a (Int32.not_le.mp zc45)]; done) | (rw [hk, dk_c zc45 (Int32.not_lt.mp zc67)]; done) | (rw [hk, dk_r zc45 zc67 zc93]; done) | (rw [dk_x zc45 zc67 (Int32.not_le.mp zc93), ← hk]; done)) (by first | (rw [he, dk_a (Int32.not_le.mp zc45)]; done) | (rw [he, dk_c zc45 (Int32.not_lt.mp zc67)]; done) | (rw [he, dk_r zc45 zc67 zc93]; done) | (rw [dk_x zc45 zc67 (Int32.not_le.mp zc93), ← hk]; done)) (by rw [← s_dw_succ _ _ _ (show i < 21 by omega)]; first | (rw [do_a (Int32.not_le.mp zc45), di_t (Int32.not_le.mp zc193), ← hF]; done) | (rw [do_c zc45 (Int32.not_lt.mp zc67), di_t (Int32.not_le.mp zc193), ← hF]; done) | (rw [do_x zc45 zc67 (Int32.not_le.mp zc93), di_t (Int32.not_le.mp zc193), ← hk, ← hF]; done) | (rw [do_r zc45 zc67 zc93, di_t (Int32.not_le.mp zc193), ← he, ← hF]; done) | (rw [do_a (Int32.not_le.mp zc45), di_f zc193, ← hF]; done) | (rw [do_c zc45 (Int32.not_lt.mp zc67), di_f zc193, ← hF]; done) | (rw [do_x zc45 zc67 (Int32.not_le.mp zc93), di_f zc193, ← hk, ← hF]; done) | (rw [do_r zc45 zc67 zc93, di_f zc193, ← he, ← hF]; done)) (by omega) ls (lv_sub hl [0, 1, 2, 3, 4, 5, 6, 7, 8, 9] rfl)
            · refine lv_iload hx hb dX5_draw_196 (lvG hl rfl) ?_
              refine lv_aload_n hx hb dX5_draw_198 rfl (lvG hl rfl) ?_
              refine lv_iload hx hb dX5_draw_199 (lvG hl rfl) ?_
              refine k_callPI (k_goV (rest := [.int (f 5), .int (nI (2531 + i)), .ref q]) hC hK (c_X5_volume l g o q (upd F (2510 + i) (f 4)) n vm) L_X5_X5_volume (⟨⟨Nat.le_of_ble_eq_true rfl, Nat.le_of_ble_eq_true rfl⟩, ⟨rfl, rfl⟩, ⟨Nat.le_of_ble_eq_true rfl, Nat.le_of_ble_eq_true rfl⟩⟩) (hP_30.recv hK) (hP_30) rfl hl.1 rfl (Nat.le_of_ble_eq_true rfl) dX5_draw_201) ?_
              rw [show (upd F (2510 + i) (f 4)) 0 = f 0 by rw [upd_ne _ _ _ _ (by omega), hf0]]
              refine lv_imul hx hb dX5_draw_204 ?_
              refine lv_aload_n hx hb dX5_draw_205 rfl (lvG hl rfl) ?_
              refine lv_iload hx hb dX5_draw_206 (lvG hl rfl) ?_
              refine k_callPI (k_goV (rest := [.int ((f 5) * (f 0 + vm)), .int (nI (2531 + i)), .ref q]) hC hK (c_X5_volume l g o q (upd F (2510 + i) (f 4)) n (nI i)) L_X5_X5_volume (⟨⟨Nat.le_of_ble_eq_true rfl, Nat.le_of_ble_eq_true rfl⟩, ⟨rfl, rfl⟩, ⟨Nat.le_of_ble_eq_true rfl, Nat.le_of_ble_eq_true rfl⟩⟩) (hP_30.recv hK) (hP_30) rfl hl.1 rfl (Nat.le_of_ble_eq_true rfl) dX5_draw_208) ?_
              rw [show (upd F (2510 + i) (f 4)) 0 = f 0 by rw [upd_ne _ _ _ _ (by omega), hf0]]
              refine lv_idiv hx hb dX5_draw_211 ((hv i (by omega)).1) ?_
              refine lv_goto (tgt := 217) hx hb dX5_draw_212 (by decide) ?_
              refine r_ast (k := 2531 + i) hC hK hP_30 hS_31 (by omega) dX5_draw_217 (fun H_36 locs_37 hP_38 hS_39 => ?_)
              refine n_iinc (lv' := [(10, .int (nI (i + 1))), (9, .int (ee)), (7, .long (kk)), (6, .int (f 5)), (0, .ref o), (1, .int (va)), (2, .int (vc)), (3, .int (vr)), (4, .int (vm)), (5, .int (lk))]) hC dX5_draw_218 hl rfl (by decide) rfl (fun ls hl => ?_)
              refine lv_goto (tgt := 35) hx hb dX5_draw_221 (by decide) ?_
              exact ih_3 (i + 1) ee kk (upd (upd F (2510 + i) (f 4)) (2531 + i) (((f 5) * (f 0 + vm)) / (f 0 + nI i))) _ _ hP_38 hS_39 (by first | omega | assumption | rfl) (by first | (rw [hk, dk_a (Int32.not_le.mp zc45)]; done) | (rw [hk, dk_c zc45 (Int32.not_lt.mp zc67)]; done) | (rw [hk, dk_r zc45 zc67 zc93]; done) | (rw [dk_x zc45 zc67 (Int32.not_le.mp zc93), ← hk]; done)) (by first | (rw [he, dk_a (Int32.not_le.mp zc45)]; done) | (rw [he, dk_c zc45 (Int32.not_lt.mp zc67)]; done) | (rw [he, dk_r zc45 zc67 zc93]; done) | (rw [dk_x zc45 zc67 (Int32.not_le.mp zc93), ← hk]; done)) (by rw [← s_dw_succ _ _ _ (show i < 21 by omega)]; first | (rw [do_a (Int32.not_le.mp zc45), di_t (Int32.not_le.mp zc193), ← hF]; done) | (rw [do_c zc45 (Int32.not_lt.mp zc67), di_t (Int32.not_le.mp zc193), ← hF]; done) | (rw [do_x zc45 zc67 (Int32.not_le.mp zc93), di_t (Int32.not_le.mp zc193), ← hk, ← hF]; done) | (rw [do_r zc45 zc67 zc93, di_t (Int32.not_le.mp zc193), ← he, ← hF]; done) | (rw [do_a (Int32.not_le.mp zc45), di_f zc193, ← hF]; done) | (rw [do_c zc45 (Int32.not_lt.mp zc67), di_f zc193, ← hF]; done) | (rw [do_x zc45 zc67 (Int32.not_le.mp zc93), di_f zc193, ← hk, ← hF]; done) | (rw [do_r zc45 zc67 zc93, di_f zc193, ← he, ← hF]; done)) (by omega) ls (lv_sub hl [0, 1, 2, 3, 4, 5, 6, 7, 8, 9] rfl)
        · refine lv_aload_n hx hb dX5_draw_48 rfl (lvG hl rfl) ?_
          refine r_row hC hK hP_l35 dX5_draw_49 ?_
          refine lv_sipush (v := nI 2510) hx hb dX5_draw_52 (by decide) ?_
          refine lv_iload hx hb dX5_draw_55 (lvG hl rfl) ?_
          refine n_iadd hC dX5_draw_57 ?_
          refine lv_iload hx hb dX5_draw_58 (lvG hl rfl) ?_
          refine r_ast (k := 2510 + i) hC hK hP_l35 hS_l35 (by omega) dX5_draw_60 (fun H_40 locs_41 hP_42 hS_43 => ?_)
          refine lv_goto (tgt := 179) hx hb dX5_draw_61 (by decide) ?_
          refine lv_aload_n hx hb dX5_draw_179 rfl (lvG hl rfl) ?_
          refine r_row hC hK hP_42 dX5_draw_180 ?_
          refine lv_sipush (v := nI 2531) hx hb dX5_draw_183 (by decide) ?_
          refine lv_iload hx hb dX5_draw_186 (lvG hl rfl) ?_
          refine n_iadd hC dX5_draw_188 ?_
          refine lv_iload hx hb dX5_draw_189 (lvG hl rfl) ?_
          refine lv_iload hx hb dX5_draw_191 (lvG hl rfl) ?_
          refine lv_icmp_ge (tgt := 215) hx hb dX5_draw_193 (by decide) (fun zc193 => ?_) (fun zc193 => ?_)
          · refine lv_iload hx hb dX5_draw_215 (lvG hl rfl) ?_
            refine r_ast (k := 2531 + i) hC hK hP_42 hS_43 (by omega) dX5_draw_217 (fun H_44 locs_45 hP_46 hS_47 => ?_)
            refine n_iinc (lv' := [(10, .int (nI (i + 1))), (9, .int (ee)), (7, .long (kk)), (6, .int (f 5)), (0, .ref o), (1, .int (va)), (2, .int (vc)), (3, .int (vr)), (4, .int (vm)), (5, .int (lk))]) hC dX5_draw_218 hl rfl (by decide) rfl (fun ls hl => ?_)
            refine lv_goto (tgt := 35) hx hb dX5_draw_221 (by decide) ?_
            exact ih_3 (i + 1) ee kk (upd (upd F (2510 + i) (f 5)) (2531 + i) (f 5)) _ _ hP_46 hS_47 (by first | omega | assumption | rfl) (by first | (rw [hk, dk_a (Int32.not_le.mp zc45)]; done) | (rw [hk, dk_c zc45 (Int32.not_lt.mp zc67)]; done) | (rw [hk, dk_r zc45 zc67 zc93]; done) | (rw [dk_x zc45 zc67 (Int32.not_le.mp zc93), ← hk]; done)) (by first | (rw [he, dk_a (Int32.not_le.mp zc45)]; done) | (rw [he, dk_c zc45 (Int32.not_lt.mp zc67)]; done) | (rw [he, dk_r zc45 zc67 zc93]; done) | (rw [dk_x zc45 zc67 (Int32.not_le.mp zc93), ← hk]; done)) (by rw [← s_dw_succ _ _ _ (show i < 21 by omega)]; first | (rw [do_a (Int32.not_le.mp zc45), di_t (Int32.not_le.mp zc193), ← hF]; done) | (rw [do_c zc45 (Int32.not_lt.mp zc67), di_t (Int32.not_le.mp zc193), ← hF]; done) | (rw [do_x zc45 zc67 (Int32.not_le.mp zc93), di_t (Int32.not_le.mp zc193), ← hk, ← hF]; done) | (rw [do_r zc45 zc67 zc93, di_t (Int32.not_le.mp zc193), ← he, ← hF]; done) | (rw [do_a (Int32.not_le.mp zc45), di_f zc193, ← hF]; done) | (rw [do_c zc45 (Int32.not_lt.mp zc67), di_f zc193, ← hF]; done) | (rw [do_x zc45 zc67 (Int32.not_le.mp zc93), di_f zc193, ← hk, ← hF]; done) | (rw [do_r zc45 zc67 zc93, di_f zc193, ← he, ← hF]; done)) (by omega) ls (lv_sub hl [0, 1, 2, 3, 4, 5, 6, 7, 8, 9] rfl)
          · refine lv_iload hx hb dX5_draw_196 (lvG hl rfl) ?_
            refine lv_aload_n hx hb dX5_draw_198 rfl (lvG hl rfl) ?_
            refine lv_iload hx hb dX5_draw_199 (lvG hl rfl) ?_
            refine k_callPI (k_goV (rest := [.int (f 5), .int (nI (2531 + i)), .ref q]) hC hK (c_X5_volume l g o q (upd F (2510 + i) (f 5)) n vm) L_X5_X5_volume (⟨⟨Nat.le_of_ble_eq_true rfl, Nat.le_of_ble_eq_true rfl⟩, ⟨rfl, rfl⟩, ⟨Nat.le_of_ble_eq_true rfl, Nat.le_of_ble_eq_true rfl⟩⟩) (hP_42.recv hK) (hP_42) rfl hl.1 rfl (Nat.le_of_ble_eq_true rfl) dX5_draw_201) ?_
            rw [show (upd F (2510 + i) (f 5)) 0 = f 0 by rw [upd_ne _ _ _ _ (by omega), hf0]]
            refine lv_imul hx hb dX5_draw_204 ?_
            refine lv_aload_n hx hb dX5_draw_205 rfl (lvG hl rfl) ?_
            refine lv_iload hx hb dX5_draw_206 (lvG hl rfl) ?_
            refine k_callPI (k_goV (rest := [.int ((f 5) * (f 0 + vm)), .int (nI (2531 + i)), .ref q]) hC hK (c_X5_volume l g o q (upd F (2510 + i) (f 5)) n (nI i)) L_X5_X5_volume (⟨⟨Nat.le_of_ble_eq_true rfl, Nat.le_of_ble_eq_true rfl⟩, ⟨rfl, rfl⟩, ⟨Nat.le_of_ble_eq_true rfl, Nat.le_of_ble_eq_true rfl⟩⟩) (hP_42.recv hK) (hP_42) rfl hl.1 rfl (Nat.le_of_ble_eq_true rfl) dX5_draw_208) ?_
            rw [show (upd F (2510 + i) (f 5)) 0 = f 0 by rw [upd_ne _ _ _ _ (by omega), hf0]]
            refine lv_idiv hx hb dX5_draw_211 ((hv i (by omega)).1) ?_
            refine lv_goto (tgt := 217) hx hb dX5_draw_212 (by decide) ?_
            refine r_ast (k := 2531 + i) hC hK hP_42 hS_43 (by omega) dX5_draw_217 (fun H_48 locs_49 hP_50 hS_51 => ?_)
            refine n_iinc (lv' := [(10, .int (nI (i + 1))), (9, .int (ee)), (7, .long (kk)), (6, .int (f 5)), (0, .ref o), (1, .int (va)), (2, .int (vc)), (3, .int (vr)), (4, .int (vm)), (5, .int (lk))]) hC dX5_draw_218 hl rfl (by decide) rfl (fun ls hl => ?_)
            refine lv_goto (tgt := 35) hx hb dX5_draw_221 (by decide) ?_
            exact ih_3 (i + 1) ee kk (upd (upd F (2510 + i) (f 5)) (2531 + i) (((f 5) * (f 0 + vm)) / (f 0 + nI i))) _ _ hP_50 hS_51 (by first | omega | assumption | rfl) (by first | (rw [hk, dk_a (Int32.not_le.mp zc45)]; done) | (rw [hk, dk_c zc45 (Int32.not_lt.mp zc67)]; done) | (rw [hk, dk_r zc45 zc67 zc93]; done) | (rw [dk_x zc45 zc67 (Int32.not_le.mp zc93), ← hk]; done)) (by first | (rw [he, dk_a (Int32.not_le.mp zc45)]; done) | (rw [he, dk_c zc45 (Int32.not_lt.mp zc67)]; done) | (rw [he, dk_r zc45 zc67 zc93]; done) | (rw [dk_x zc45 zc67 (Int32.not_le.mp zc93), ← hk]; done)) (by rw [← s_dw_succ _ _ _ (show i < 21 by omega)]; first | (rw [do_a (Int32.not_le.mp zc45), di_t (Int32.not_le.mp zc193), ← hF]; done) | (rw [do_c zc45 (Int32.not_lt.mp zc67), di_t (Int32.not_le.mp zc193), ← hF]; done) | (rw [do_x zc45 zc67 (Int32.not_le.mp zc93), di_t (Int32.not_le.mp zc193), ← hk, ← hF]; done) | (rw [do_r zc45 zc67 zc93, di_t (Int32.not_le.mp zc193), ← he, ← hF]; done) | (rw [do_a (Int32.not_le.mp zc45), di_f zc193, ← hF]; done) | (rw [do_c zc45 (Int32.not_lt.mp zc67), di_f zc193, ← hF]; done) | (rw [do_x zc45 zc67 (Int32.not_le.mp zc93), di_f zc193, ← hk, ← hF]; done) | (rw [do_r zc45 zc67 zc93, di_f zc193, ← he, ← hF]; done)) (by omega) ls (lv_sub hl [0, 1, 2, 3, 4, 5, 6, 7, 8, 9] rfl)
  exact key_1 ((21 - 0) + 1) 0 (f 4) (((f 4).toInt64) * ((f 0 + vc).toInt64)) f _ _ hP hS (by first | rfl | omega | assumption) (rfl) (rfl) ((s_dw_0 _ _ _).symm) (Nat.lt_succ_self _) ls (lv_sub hl [0, 1, 2, 3, 4, 5, 6, 7, 8, 9] rfl)
