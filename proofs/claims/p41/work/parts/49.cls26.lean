section DRW
variable {h p : Nat → Int32} {st z U : Nat}
def k_drw (h : Nat → Int32) (st D U : Nat) : Int32 := if D = 0 then (if U = 21 then nI 0 else h U) else if U = 21 ∨ U = D - 1 then h (D - 1) else h (D - 1) + q_i ((h U - h (D - 1)) * nI (st - (D - 1))) (nI (U - (D - 1)))
def k_dr (h : Nat → Int32) (st : Nat) : Int32 := k_drw h st (k_dn h (st + 1)) (k_up h (21 - st) st)
theorem dr_def : k_dr h st = k_drw h st (k_dn h (st + 1)) (k_up h (21 - st) st) := rfl
theorem dw_00 : k_drw h st 0 21 = nI 0 := rfl
theorem dw_0u (hU : ¬ U = 21) : k_drw h st 0 U = h U := by unfold k_drw; rw [if_pos rfl, if_neg hU]
theorem dw_d1 : k_drw h st (z + 1) 21 = h z := by unfold k_drw; rw [if_neg (by omega), if_pos (Or.inl rfl), Nat.add_sub_cancel]
theorem dw_dz (hU : U = z) : k_drw h st (z + 1) U = h z := by unfold k_drw; rw [if_neg (by omega), if_pos (Or.inr (by omega)), Nat.add_sub_cancel]
theorem dw_g (h1 : ¬ U = 21) (h2 : ¬ U = z) : k_drw h st (z + 1) U = h z + q_i ((h U - h z) * nI (st - z)) (nI (U - z)) := by unfold k_drw; rw [if_neg (by omega), if_neg (by omega), Nat.add_sub_cancel]
theorem nm1 {d : Nat} (hd : d < 2 ^ 31) : ¬ nI d = (-1 : Int32) := fun q => by
  have h1 := congrArg Int32.toInt q
  rw [nI_toInt hd] at h1
  have h2 : ((-1 : Int32)).toInt = -1 := by decide
  omega
theorem kd_iff {a b : Int32} (e : a = b - nI 1) : a = (-1 : Int32) ↔ b = nI 0 := by
  constructor
  · intro q
    rw [e] at q
    have z2 : b = (-1 : Int32) + nI 1 := by rw [← q, Int32.sub_add_cancel]
    rw [z2]; decide
  · intro q
    rw [e, q]; decide
theorem dn_eq : ∀ m, (∀ k, k < m → h k = p k - nI 1) → k_dn h m = s_dn p m
  | 0, _ => rfl
  | m + 1, e => by
    have ih := dn_eq m (fun k hk => e k (by omega))
    have c := kd_iff (e m (by omega))
    unfold k_dn s_dn
    rw [ih]
    by_cases q : p m = nI 0
    · rw [if_pos (c.mpr q), if_pos q]
    · rw [if_neg (fun z => q (c.mp z)), if_neg q]
theorem up_eq : ∀ m k, (∀ i, i < k + m → h i = p i - nI 1) → k_up h m k = s_up p m k
  | 0, _, _ => rfl
  | m + 1, k, e => by
    have ih := up_eq m (k + 1) (fun i hi => e i (by omega))
    have c := kd_iff (e k (by omega))
    unfold k_up s_up
    rw [ih]
    by_cases q : p k = nI 0
    · rw [if_pos (c.mpr q), if_pos q]
    · rw [if_neg (fun z => q (c.mp z)), if_neg q]
theorem dn_0 : ∀ m, k_dn h m = 0 → ∀ k, k < m → h k = (-1 : Int32)
  | 0, _, k, hk => absurd hk (Nat.not_lt_zero _)
  | m + 1, e, k, hk => by
    unfold k_dn at e
    by_cases q : h m = (-1 : Int32)
    · rw [if_pos q] at e
      rcases Nat.lt_or_ge k m with c | c
      · exact dn_0 m e k c
      · rw [show k = m by omega]; exact q
    · rw [if_neg q] at e
      omega
theorem up_all : ∀ m k, k_up h m k = k + m → ∀ i, k ≤ i → i < k + m → h i = (-1 : Int32)
  | 0, k, _, i, h1, h2 => by omega
  | m + 1, k, e, i, h1, h2 => by
    unfold k_up at e
    by_cases q : h k = (-1 : Int32)
    · rw [if_pos q] at e
      by_cases c : i = k
      · rw [c]; exact q
      · exact up_all m (k + 1) (by omega) i (by omega) (by omega)
    · rw [if_neg q] at e
      omega
theorem ct_0 : ∀ m, (∀ k, k < m → h k = (-1 : Int32)) → k_ct h m = 0
  | 0, _ => rfl
  | m + 1, e => by
    unfold k_ct
    rw [ct_0 m (fun k hk => e k (by omega)), if_pos (e m (by omega))]
theorem mul_bd {a b : Int} (h1 : -5001 ≤ a) (h2 : a ≤ 5001) (h3 : 0 ≤ b) (h4 : b ≤ 20) : -100020 ≤ a * b ∧ a * b ≤ 100020 := by
  have e1 : a * b ≤ 5001 * 20 := Int.mul_le_mul h2 h4 h3 (by decide)
  have e2 : -a * b ≤ 5001 * 20 := Int.mul_le_mul (by omega) h4 h3 (by decide)
  rw [Int.neg_mul] at e2
  omega
theorem dr_eq (hst : st ≤ 20) (e : ∀ k, k < 21 → h k = p k - nI 1) (hb : ∀ k, k < 21 → 0 ≤ (p k).toInt ∧ (p k).toInt ≤ 5001) (hc : ¬ k_ct h 21 = 0) : k_dr h st = s_dr p st := by
  unfold k_dr s_dr
  rw [← dn_eq (st + 1) (fun k hk => e k (by omega)), ← up_eq (21 - st) st (fun k hk => e k (by omega))]
  have h1 := k_dn_le h (st + 1)
  have h2 := k_up_in h (21 - st) st
  have hne : ¬ (k_dn h (st + 1) = 0 ∧ k_up h (21 - st) st = 21) := fun q => hc (ct_0 21 (fun k hk => by
    rcases Nat.lt_or_ge k (st + 1) with c | c
    · exact dn_0 (st + 1) q.1 k c
    · exact up_all (21 - st) st (by omega) k (by omega) (by omega)))
  generalize k_dn h (st + 1) = D at *
  generalize k_up h (21 - st) st = U at *
  unfold k_drw s_drw
  have z1 : (nI 1).toInt = 1 := rfl
  by_cases c1 : D = 0
  · rw [if_pos c1, if_neg (fun q => hne ⟨c1, q⟩), if_pos (Or.inl c1), if_pos c1]
    exact e U (by omega)
  · rw [if_neg c1]
    by_cases c2 : U = 21
    · rw [if_pos (Or.inl c2), if_pos (Or.inr (Or.inl (by omega))), if_neg c1]
      exact e (D - 1) (by omega)
    · by_cases c3 : U = D - 1
      · rw [if_pos (Or.inr c3), if_pos (Or.inr (Or.inr (by omega))), if_neg c1]
        exact e (D - 1) (by omega)
      · rw [if_neg (show ¬ (U = 21 ∨ U = D - 1) by omega), if_neg (show ¬ (D = 0 ∨ 20 < U ∨ D = U + 1) by omega)]
        have b1 := hb U (by omega)
        have b2 := hb (D - 1) (by omega)
        have f1 : (p U - nI 1).toInt = (p U).toInt - 1 := by rw [fb_subI (by omega) (by omega), z1]
        have f2 : (p (D - 1) - nI 1).toInt = (p (D - 1)).toInt - 1 := by rw [fb_subI (by omega) (by omega), z1]
        have f3 : (p U - p (D - 1)).toInt = (p U).toInt - (p (D - 1)).toInt := fb_subI (by omega) (by omega)
        have e1 : h U - h (D - 1) = p U - p (D - 1) := by
          rw [e U (by omega), e (D - 1) (by omega)]
          refine Int32.toInt_inj.mp ?_
          rw [fb_subI (by omega) (by omega), f1, f2, f3]
          omega
        rw [e1, e (D - 1) (by omega)]
        congr 1
        have k1 : (nI (st - (D - 1))).toInt = ((st - (D - 1) : Nat) : Int) := nI_toInt (by omega)
        have k2 : (nI (U - (D - 1))).toInt = ((U - (D - 1) : Nat) : Int) := nI_toInt (by omega)
        have mb := mul_bd (a := (p U - p (D - 1)).toInt) (b := (nI (st - (D - 1))).toInt) (by omega) (by omega) (by omega) (by omega)
        refine (quo_I64 _ _ _ ?_ (by omega)).symm
        rw [fb_mulL (by rw [t64, t64]; omega) (by rw [t64, t64]; omega), t64, t64, fb_mulI (by omega) (by omega)]
end DRW
theorem L_X4_X4_pointUpTo : LnkS RX4 296 yX4_pointUpTo cX4_pointUpTo 3 (some .int) 2 := ⟨w_283, w_284, w_25, w_285, ⟨by decide +kernel, by decide +kernel⟩, by decide +kernel⟩
theorem L_X4_X4_pointFrom : LnkS RX4 300 yX4_pointFrom cX4_pointFrom 3 (some .int) 2 := ⟨w_286, w_287, w_25, w_288, ⟨by decide +kernel, by decide +kernel⟩, by decide +kernel⟩
set_option maxHeartbeats 4000000 in
set_option maxRecDepth 100000 in
theorem c_X4_drawThroughPoints (l : Launch) (g : kG) (y0 : Nat) (h : Nat → Int32) (y : Nat) (h1 : Nat → Int32) : MV l yX4_drawThroughPoints cX4_drawThroughPoints 6 none (rr 2 43) [.ref y0, .ref y] ((fun H => XK g [cI g y0 21 h] (fun q => q = y) H ∧ va_P g.1 kCl [cI g y 21 h1] H)) g 0 0 (fun q => q = y) (fun H1 => va_P g.1 kCl [cI g y 21 (s_fl h1 0 (k_dr h) 21)] H1) := by
  refine kOf (by decide) (Nat.le_of_ble_eq_true rfl) (fun p e s m below meth c ls hC hr hlk hin hK hP hl => ?_)
  have hx := hC.1
  have hb := hC.2.1
  have hml := hC.2.2.1
  have hown := hC.2.2.2.1
  have hts := hC.2.2.2.2
  have hl : lv_has ls 6 [(0, .ref y0), (1, .ref y)] := hl
  obtain ⟨hX, hM⟩ := hP
  have hD : va_D (fun q => q = y) [cI g y 21 h1] := D1 rfl
  have hS : va_S (fun q => q = y) s.heap s.heap [] := va_S.rf
  refine lv_iconst (v := nI 0) hx hb dX4_drawThroughPoints_0 (by decide) ?_
  refine lv_istore_n (lv' := [(2, .int (nI 0)), (0, .ref y0), (1, .ref y)]) hx hb dX4_drawThroughPoints_1 rfl hl (by decide) rfl (fun ls hl => ?_)
  have key_1 : ∀ (k_2 : Nat) (zs : Nat) (F9 : Nat → Int32) (H9 : Heap) (locs9 : List Loc) (hM9 : va_P g.1 kCl [cI g y 21 F9] H9) (hD9 : va_D (fun q => q = y) [cI g y 21 F9]) (hS9 : va_S (fun q => q = y) s.heap H9 locs9) (hz : zs ≤ 21) (hF : F9 = s_fl h1 0 (k_dr h) zs) (hk_k_2 : 21 - zs < k_2) (ls : Array Slot) (hl : lv_has ls 6 [(2, .int (nI zs)), (0, .ref y0), (1, .ref y)]), W p l e (rr 2 43) s m [.ref y0, .ref y].toArray below meth c H9 locs9 0 0 (MQ below (qV (fun q => q = y) (fun H1 => va_P g.1 kCl [cI g y 21 (s_fl h1 0 (k_dr h) 21)] H1)) [.ref y0, .ref y].toArray s 0 0 (fun q => q = y)) (F0 m 2 ls ([])) := by
    intro k_2
    induction k_2 with
    | zero => intro zs F9 H9 locs9 hM9 hD9 hS9 hz hF hk_k_2 ls hl; exact absurd hk_k_2 (Nat.not_lt_zero _)
    | succ k_2 ih_3 =>
      intro zs F9 H9 locs9 hM9 hD9 hS9 hz hF hk_k_2 ls hl
      have hX9 := hX.at hS9
      refine lv_iload_n hx hb dX4_drawThroughPoints_2 rfl (lvG hl rfl) ?_
      refine lv_bipush (v := nI 21) hx hb dX4_drawThroughPoints_3 (by decide) ?_
      refine n_icmp_ge (tgt := 111) hC dX4_drawThroughPoints_5 (by omega) (by omega) (by decide) (fun zc5 => ?_) (fun zc5 => ?_)
      · exact k_vretM hC hr hlk hS9 dX4_drawThroughPoints_111 (by rw [hF, show zs = 21 by omega] at hM9; exact hM9)
      · refine lv_aload_n hx hb dX4_drawThroughPoints_8 rfl (lvG hl rfl) ?_
        refine lv_iload_n hx hb dX4_drawThroughPoints_9 rfl (lvG hl rfl) ?_
        refine k_callPI (k_goS (rest := []) hC hK (c_X4_pointUpTo l g y0 h zs (by first | assumption | omega)) L_X4_X4_pointUpTo (⟨⟨Nat.le_of_ble_eq_true rfl, Nat.le_of_ble_eq_true rfl⟩, ⟨rfl, rfl⟩, ⟨Nat.le_of_ble_eq_true rfl, Nat.le_of_ble_eq_true rfl⟩⟩) (hX9.1) rfl hl.1 rfl (Nat.le_of_ble_eq_true rfl) dX4_drawThroughPoints_10) ?_
        refine lv_istore_n (lv' := [(3, .int (k_up1 h zs)), (2, .int (nI zs)), (0, .ref y0), (1, .ref y)]) hx hb dX4_drawThroughPoints_13 rfl hl (by decide) rfl (fun ls hl => ?_)
        refine lv_aload_n hx hb dX4_drawThroughPoints_14 rfl (lvG hl rfl) ?_
        refine lv_iload_n hx hb dX4_drawThroughPoints_15 rfl (lvG hl rfl) ?_
        refine k_callPI (k_goS (rest := []) hC hK (c_X4_pointFrom l g y0 h zs (by first | assumption | omega)) L_X4_X4_pointFrom (⟨⟨Nat.le_of_ble_eq_true rfl, Nat.le_of_ble_eq_true rfl⟩, ⟨rfl, rfl⟩, ⟨Nat.le_of_ble_eq_true rfl, Nat.le_of_ble_eq_true rfl⟩⟩) (hX9.1) rfl hl.1 rfl (Nat.le_of_ble_eq_true rfl) dX4_drawThroughPoints_16) ?_
        refine lv_istore (lv' := [(4, .int (k_fr1 h zs)), (3, .int (k_up1 h zs)), (2, .int (nI zs)), (0, .ref y0), (1, .ref y)]) hx hb dX4_drawThroughPoints_19 hl (by decide) rfl (fun ls hl => ?_)
        have hDl := k_dn_le h (zs + 1)
        have hUi := k_up_in h (21 - zs) zs
        obtain ⟨zD, eD⟩ : ∃ z, z = k_dn h (zs + 1) := ⟨_, rfl⟩
        obtain ⟨zU, eU⟩ : ∃ z, z = k_up h (21 - zs) zs := ⟨_, rfl⟩
        rw [← eD] at hDl
        rw [← eU] at hUi
        have e3 : k_up1 h zs = nI zD + (-1) := by unfold k_up1; rw [eD]
        have e4 : k_fr1 h zs = if zU = 21 then (-1 : Int32) else nI zU := by unfold k_fr1; rw [eU]
        rcases Nat.eq_zero_or_pos zD with zd | zd
        · have e3b : k_up1 h zs = (-1 : Int32) := by rw [e3, zd]; decide
          by_cases zu : zU = 21
          · have e4b : k_fr1 h zs = (-1 : Int32) := by rw [e4, if_pos zu]
            have hl : lv_has ls 6 [(4, .int ((-1 : Int32))), (3, .int ((-1 : Int32))), (2, .int (nI zs)), (0, .ref y0), (1, .ref y)] := lv_eq hl (by rw [e3b, e4b])
            refine lv_iload_n hx hb dX4_drawThroughPoints_21 rfl (lvG hl rfl) ?_
            refine lv_iconst (v := (-1 : Int32)) hx hb dX4_drawThroughPoints_22 (by decide) ?_
            refine lv_icmp_ne (tgt := 39) hx hb dX4_drawThroughPoints_23 (by decide) (fun zc => absurd rfl zc) (fun zc => ?_)
            refine lv_iload hx hb dX4_drawThroughPoints_26 (lvG hl rfl) ?_
            refine lv_iconst (v := (-1 : Int32)) hx hb dX4_drawThroughPoints_28 (by decide) ?_
            refine lv_icmp_ne (tgt := 39) hx hb dX4_drawThroughPoints_29 (by decide) (fun zc => absurd rfl zc) (fun zc => ?_)
            refine lv_aload_n hx hb dX4_drawThroughPoints_32 rfl (lvG hl rfl) ?_
            refine lv_iload_n hx hb dX4_drawThroughPoints_33 rfl (lvG hl rfl) ?_
            refine lv_iconst (v := nI 0) hx hb dX4_drawThroughPoints_34 (by decide) ?_
            refine k_ast (k := zs) (v := nI 0) hC hK hM9 hD9 hS9 0 rfl (by omega) (by decide) dX4_drawThroughPoints_35 (fun H_4 locs_5 hP_6 hD_7 hS_8 => ?_)
            have hP_6 : va_P g.1 kCl [cI g y 21 (upd F9 zs (nI 0))] H_4 := hP_6
            have hD_7 : va_D (fun q => q = y) [cI g y 21 (upd F9 zs (nI 0))] := hD_7
            have hX_9 := hX.at hS_8
            refine lv_goto (tgt := 105) hx hb dX4_drawThroughPoints_36 (by decide) ?_
            refine n_iinc (lv' := [(2, .int (nI (zs + 1))), (4, .int ((-1 : Int32))), (3, .int ((-1 : Int32))), (0, .ref y0), (1, .ref y)]) hC dX4_drawThroughPoints_105 hl rfl (by decide) rfl (fun ls hl => ?_)
            refine lv_goto (tgt := 2) hx hb dX4_drawThroughPoints_108 (by decide) ?_
            exact ih_3 (zs + 1) (upd F9 zs (nI 0)) _ _ hP_6 hD_7 hS_8 (by first | omega | assumption | rfl) (by have e9 := s_fl_succ h1 0 (k_dr h) zs; rw [Nat.zero_add, ← hF] at e9; rw [← e9]; refine congrArg (upd F9 zs) ?_; rw [dr_def, ← eD, ← eU]; first | (rw [zd, zu]; exact dw_00.symm) | (rw [zd]; exact (dw_0u zu).symm) | (rw [zu]; exact dw_d1.symm) | exact (dw_dz (by omega)).symm | exact (dw_g zu zc63).symm) (by omega) ls (lv_sub hl [0, 3, 4] rfl)
          · have e4b : k_fr1 h zs = nI zU := by rw [e4, if_neg zu]
            have hl : lv_has ls 6 [(4, .int (nI zU)), (3, .int ((-1 : Int32))), (2, .int (nI zs)), (0, .ref y0), (1, .ref y)] := lv_eq hl (by rw [e3b, e4b])
            refine lv_iload_n hx hb dX4_drawThroughPoints_21 rfl (lvG hl rfl) ?_
            refine lv_iconst (v := (-1 : Int32)) hx hb dX4_drawThroughPoints_22 (by decide) ?_
            refine lv_icmp_ne (tgt := 39) hx hb dX4_drawThroughPoints_23 (by decide) (fun zc => absurd rfl zc) (fun zc => ?_)
            refine lv_iload hx hb dX4_drawThroughPoints_26 (lvG hl rfl) ?_
            refine lv_iconst (v := (-1 : Int32)) hx hb dX4_drawThroughPoints_28 (by decide) ?_
            refine lv_icmp_ne (tgt := 39) hx hb dX4_drawThroughPoints_29 (by decide) (fun zc => ?_) (fun zc => absurd zc (nm1 (by omega)))
            refine lv_iload_n hx hb dX4_drawThroughPoints_39 rfl (lvG hl rfl) ?_
            refine lv_iconst (v := (-1 : Int32)) hx hb dX4_drawThroughPoints_40 (by decide) ?_
            refine lv_icmp_ne (tgt := 54) hx hb dX4_drawThroughPoints_41 (by decide) (fun zc => absurd rfl zc) (fun zc => ?_)
            refine lv_aload_n hx hb dX4_drawThroughPoints_44 rfl (lvG hl rfl) ?_
            refine lv_iload_n hx hb dX4_drawThroughPoints_45 rfl (lvG hl rfl) ?_
            refine lv_aload_n hx hb dX4_drawThroughPoints_46 rfl (lvG hl rfl) ?_
            refine lv_iload hx hb dX4_drawThroughPoints_47 (lvG hl rfl) ?_
            refine k_ald (k := zU) hC hK hX9.1 0 rfl (by omega) (by decide) dX4_drawThroughPoints_49 ?_
            refine k_ast (k := zs) (v := h zU) hC hK hM9 hD9 hS9 0 rfl (by omega) (by decide) dX4_drawThroughPoints_50 (fun H_10 locs_11 hP_12 hD_13 hS_14 => ?_)
            have hP_12 : va_P g.1 kCl [cI g y 21 (upd F9 zs (h zU))] H_10 := hP_12
            have hD_13 : va_D (fun q => q = y) [cI g y 21 (upd F9 zs (h zU))] := hD_13
            have hX_15 := hX.at hS_14
            refine lv_goto (tgt := 105) hx hb dX4_drawThroughPoints_51 (by decide) ?_
            refine n_iinc (lv' := [(2, .int (nI (zs + 1))), (4, .int (nI zU)), (3, .int ((-1 : Int32))), (0, .ref y0), (1, .ref y)]) hC dX4_drawThroughPoints_105 hl rfl (by decide) rfl (fun ls hl => ?_)
            refine lv_goto (tgt := 2) hx hb dX4_drawThroughPoints_108 (by decide) ?_
            exact ih_3 (zs + 1) (upd F9 zs (h zU)) _ _ hP_12 hD_13 hS_14 (by first | omega | assumption | rfl) (by have e9 := s_fl_succ h1 0 (k_dr h) zs; rw [Nat.zero_add, ← hF] at e9; rw [← e9]; refine congrArg (upd F9 zs) ?_; rw [dr_def, ← eD, ← eU]; first | (rw [zd, zu]; exact dw_00.symm) | (rw [zd]; exact (dw_0u zu).symm) | (rw [zu]; exact dw_d1.symm) | exact (dw_dz (by omega)).symm | exact (dw_g zu zc63).symm) (by omega) ls (lv_sub hl [0, 3, 4] rfl)
        · obtain ⟨zq, rfl⟩ : ∃ z, zD = z + 1 := ⟨zD - 1, by omega⟩
          have e3b : k_up1 h zs = nI zq := by rw [e3, pk_m1]
          by_cases zu : zU = 21
          · have e4b : k_fr1 h zs = (-1 : Int32) := by rw [e4, if_pos zu]
            have hl : lv_has ls 6 [(4, .int ((-1 : Int32))), (3, .int (nI zq)), (2, .int (nI zs)), (0, .ref y0), (1, .ref y)] := lv_eq hl (by rw [e3b, e4b])
            refine lv_iload_n hx hb dX4_drawThroughPoints_21 rfl (lvG hl rfl) ?_
            refine lv_iconst (v := (-1 : Int32)) hx hb dX4_drawThroughPoints_22 (by decide) ?_
            refine lv_icmp_ne (tgt := 39) hx hb dX4_drawThroughPoints_23 (by decide) (fun zc => ?_) (fun zc => absurd zc (nm1 (by omega)))
            refine lv_iload_n hx hb dX4_drawThroughPoints_39 rfl (lvG hl rfl) ?_
            refine lv_iconst (v := (-1 : Int32)) hx hb dX4_drawThroughPoints_40 (by decide) ?_
            refine lv_icmp_ne (tgt := 54) hx hb dX4_drawThroughPoints_41 (by decide) (fun zc => ?_) (fun zc => absurd zc (nm1 (by omega)))
            refine lv_iload hx hb dX4_drawThroughPoints_54 (lvG hl rfl) ?_
            refine lv_iconst (v := (-1 : Int32)) hx hb dX4_drawThroughPoints_56 (by decide) ?_
            refine lv_icmp_eq (tgt := 66) hx hb dX4_drawThroughPoints_57 (by decide) (fun zc => ?_) (fun zc => absurd rfl zc)
            refine lv_aload_n hx hb dX4_drawThroughPoints_66 rfl (lvG hl rfl) ?_
            refine lv_iload_n hx hb dX4_drawThroughPoints_67 rfl (lvG hl rfl) ?_
            refine lv_aload_n hx hb dX4_drawThroughPoints_68 rfl (lvG hl rfl) ?_
            refine lv_iload_n hx hb dX4_drawThroughPoints_69 rfl (lvG hl rfl) ?_
            refine k_ald (k := zq) hC hK hX9.1 0 rfl (by omega) (by decide) dX4_drawThroughPoints_70 ?_
            refine k_ast (k := zs) (v := h zq) hC hK hM9 hD9 hS9 0 rfl (by omega) (by decide) dX4_drawThroughPoints_71 (fun H_16 locs_17 hP_18 hD_19 hS_20 => ?_)
            have hP_18 : va_P g.1 kCl [cI g y 21 (upd F9 zs (h zq))] H_16 := hP_18
            have hD_19 : va_D (fun q => q = y) [cI g y 21 (upd F9 zs (h zq))] := hD_19
            have hX_21 := hX.at hS_20
            refine lv_goto (tgt := 105) hx hb dX4_drawThroughPoints_72 (by decide) ?_
            refine n_iinc (lv' := [(2, .int (nI (zs + 1))), (4, .int ((-1 : Int32))), (3, .int (nI zq)), (0, .ref y0), (1, .ref y)]) hC dX4_drawThroughPoints_105 hl rfl (by decide) rfl (fun ls hl => ?_)
            refine lv_goto (tgt := 2) hx hb dX4_drawThroughPoints_108 (by decide) ?_
            exact ih_3 (zs + 1) (upd F9 zs (h zq)) _ _ hP_18 hD_19 hS_20 (by first | omega | assumption | rfl) (by have e9 := s_fl_succ h1 0 (k_dr h) zs; rw [Nat.zero_add, ← hF] at e9; rw [← e9]; refine congrArg (upd F9 zs) ?_; rw [dr_def, ← eD, ← eU]; first | (rw [zd, zu]; exact dw_00.symm) | (rw [zd]; exact (dw_0u zu).symm) | (rw [zu]; exact dw_d1.symm) | exact (dw_dz (by omega)).symm | exact (dw_g zu zc63).symm) (by omega) ls (lv_sub hl [0, 3, 4] rfl)
          · have e4b : k_fr1 h zs = nI zU := by rw [e4, if_neg zu]
            have hl : lv_has ls 6 [(4, .int (nI zU)), (3, .int (nI zq)), (2, .int (nI zs)), (0, .ref y0), (1, .ref y)] := lv_eq hl (by rw [e3b, e4b])
            refine lv_iload_n hx hb dX4_drawThroughPoints_21 rfl (lvG hl rfl) ?_
            refine lv_iconst (v := (-1 : Int32)) hx hb dX4_drawThroughPoints_22 (by decide) ?_
            refine lv_icmp_ne (tgt := 39) hx hb dX4_drawThroughPoints_23 (by decide) (fun zc => ?_) (fun zc => absurd zc (nm1 (by omega)))
            refine lv_iload_n hx hb dX4_drawThroughPoints_39 rfl (lvG hl rfl) ?_
            refine lv_iconst (v := (-1 : Int32)) hx hb dX4_drawThroughPoints_40 (by decide) ?_
            refine lv_icmp_ne (tgt := 54) hx hb dX4_drawThroughPoints_41 (by decide) (fun zc => ?_) (fun zc => absurd zc (nm1 (by omega)))
            refine lv_iload hx hb dX4_drawThroughPoints_54 (lvG hl rfl) ?_
            refine lv_iconst (v := (-1 : Int32)) hx hb dX4_drawThroughPoints_56 (by decide) ?_
            refine lv_icmp_eq (tgt := 66) hx hb dX4_drawThroughPoints_57 (by decide) (fun zc => absurd zc (nm1 (by omega))) (fun zc => ?_)
            refine lv_iload hx hb dX4_drawThroughPoints_60 (lvG hl rfl) ?_
            refine lv_iload_n hx hb dX4_drawThroughPoints_62 rfl (lvG hl rfl) ?_
            refine n_icmp_ne (tgt := 75) hC dX4_drawThroughPoints_63 (by omega) (by omega) (by decide) (fun zc63 => ?_) (fun zc63 => ?_)
            · refine lv_aload_n hx hb dX4_drawThroughPoints_75 rfl (lvG hl rfl) ?_
              refine lv_iload hx hb dX4_drawThroughPoints_76 (lvG hl rfl) ?_
              refine k_ald (k := zU) hC hK hX9.1 0 rfl (by omega) (by decide) dX4_drawThroughPoints_78 ?_
              refine lv_aload_n hx hb dX4_drawThroughPoints_79 rfl (lvG hl rfl) ?_
              refine lv_iload_n hx hb dX4_drawThroughPoints_80 rfl (lvG hl rfl) ?_
              refine k_ald (k := zq) hC hK hX9.1 0 rfl (by omega) (by decide) dX4_drawThroughPoints_81 ?_
              refine lv_isub hx hb dX4_drawThroughPoints_82 ?_
              refine lv_iload_n hx hb dX4_drawThroughPoints_83 rfl (lvG hl rfl) ?_
              refine lv_iload_n hx hb dX4_drawThroughPoints_84 rfl (lvG hl rfl) ?_
              refine n_isub hC dX4_drawThroughPoints_85 (by omega) ?_
              refine lv_imul hx hb dX4_drawThroughPoints_86 ?_
              refine lv_istore (lv' := [(5, .int (((h zU) - (h zq)) * (nI (zs - zq)))), (4, .int (nI zU)), (3, .int (nI zq)), (2, .int (nI zs)), (0, .ref y0), (1, .ref y)]) hx hb dX4_drawThroughPoints_87 hl (by decide) rfl (fun ls hl => ?_)
              refine lv_aload_n hx hb dX4_drawThroughPoints_89 rfl (lvG hl rfl) ?_
              refine lv_iload_n hx hb dX4_drawThroughPoints_90 rfl (lvG hl rfl) ?_
              refine lv_aload_n hx hb dX4_drawThroughPoints_91 rfl (lvG hl rfl) ?_
              refine lv_iload_n hx hb dX4_drawThroughPoints_92 rfl (lvG hl rfl) ?_
              refine k_ald (k := zq) hC hK hX9.1 0 rfl (by omega) (by decide) dX4_drawThroughPoints_93 ?_
              refine lv_iload hx hb dX4_drawThroughPoints_94 (lvG hl rfl) ?_
              refine lv_iload hx hb dX4_drawThroughPoints_96 (lvG hl rfl) ?_
              refine lv_iload_n hx hb dX4_drawThroughPoints_98 rfl (lvG hl rfl) ?_
              refine n_isub hC dX4_drawThroughPoints_99 (by omega) ?_
              refine k_callPI (k_goS (rest := [.int (h zq), .int (nI zs), .ref y]) hC hK (c_X4_quotient l g (((h zU) - (h zq)) * (nI (zs - zq))) (nI (zU - zq))) L_X4_X4_quotient (⟨⟨Nat.le_of_ble_eq_true rfl, Nat.le_of_ble_eq_true rfl⟩, ⟨rfl, rfl⟩, ⟨Nat.le_of_ble_eq_true rfl, Nat.le_of_ble_eq_true rfl⟩⟩) (trivial) rfl hl.1 rfl (Nat.le_of_ble_eq_true rfl) dX4_drawThroughPoints_100) ?_
              refine lv_iadd hx hb dX4_drawThroughPoints_103 ?_
              refine k_ast (k := zs) (v := (h zq) + (q_i (((h zU) - (h zq)) * (nI (zs - zq))) (nI (zU - zq)))) hC hK hM9 hD9 hS9 0 rfl (by omega) (by decide) dX4_drawThroughPoints_104 (fun H_22 locs_23 hP_24 hD_25 hS_26 => ?_)
              have hP_24 : va_P g.1 kCl [cI g y 21 (upd F9 zs ((h zq) + (q_i (((h zU) - (h zq)) * (nI (zs - zq))) (nI (zU - zq)))))] H_22 := hP_24
              have hD_25 : va_D (fun q => q = y) [cI g y 21 (upd F9 zs ((h zq) + (q_i (((h zU) - (h zq)) * (nI (zs - zq))) (nI (zU - zq)))))] := hD_25
              have hX_27 := hX.at hS_26
              refine n_iinc (lv' := [(2, .int (nI (zs + 1))), (5, .int (((h zU) - (h zq)) * (nI (zs - zq)))), (4, .int (nI zU)), (3, .int (nI zq)), (0, .ref y0), (1, .ref y)]) hC dX4_drawThroughPoints_105 hl rfl (by decide) rfl (fun ls hl => ?_)
              refine lv_goto (tgt := 2) hx hb dX4_drawThroughPoints_108 (by decide) ?_
              exact ih_3 (zs + 1) (upd F9 zs ((h zq) + (q_i (((h zU) - (h zq)) * (nI (zs - zq))) (nI (zU - zq))))) _ _ hP_24 hD_25 hS_26 (by first | omega | assumption | rfl) (by have e9 := s_fl_succ h1 0 (k_dr h) zs; rw [Nat.zero_add, ← hF] at e9; rw [← e9]; refine congrArg (upd F9 zs) ?_; rw [dr_def, ← eD, ← eU]; first | (rw [zd, zu]; exact dw_00.symm) | (rw [zd]; exact (dw_0u zu).symm) | (rw [zu]; exact dw_d1.symm) | exact (dw_dz (by omega)).symm | exact (dw_g zu zc63).symm) (by omega) ls (lv_sub hl [0, 4, 5] rfl)
            · refine lv_aload_n hx hb dX4_drawThroughPoints_66 rfl (lvG hl rfl) ?_
              refine lv_iload_n hx hb dX4_drawThroughPoints_67 rfl (lvG hl rfl) ?_
              refine lv_aload_n hx hb dX4_drawThroughPoints_68 rfl (lvG hl rfl) ?_
              refine lv_iload_n hx hb dX4_drawThroughPoints_69 rfl (lvG hl rfl) ?_
              refine k_ald (k := zq) hC hK hX9.1 0 rfl (by omega) (by decide) dX4_drawThroughPoints_70 ?_
              refine k_ast (k := zs) (v := h zq) hC hK hM9 hD9 hS9 0 rfl (by omega) (by decide) dX4_drawThroughPoints_71 (fun H_28 locs_29 hP_30 hD_31 hS_32 => ?_)
              have hP_30 : va_P g.1 kCl [cI g y 21 (upd F9 zs (h zq))] H_28 := hP_30
              have hD_31 : va_D (fun q => q = y) [cI g y 21 (upd F9 zs (h zq))] := hD_31
              have hX_33 := hX.at hS_32
              refine lv_goto (tgt := 105) hx hb dX4_drawThroughPoints_72 (by decide) ?_
              refine n_iinc (lv' := [(2, .int (nI (zs + 1))), (4, .int (nI zU)), (3, .int (nI zq)), (0, .ref y0), (1, .ref y)]) hC dX4_drawThroughPoints_105 hl rfl (by decide) rfl (fun ls hl => ?_)
              refine lv_goto (tgt := 2) hx hb dX4_drawThroughPoints_108 (by decide) ?_
              exact ih_3 (zs + 1) (upd F9 zs (h zq)) _ _ hP_30 hD_31 hS_32 (by first | omega | assumption | rfl) (by have e9 := s_fl_succ h1 0 (k_dr h) zs; rw [Nat.zero_add, ← hF] at e9; rw [← e9]; refine congrArg (upd F9 zs) ?_; rw [dr_def, ← eD, ← eU]; first | (rw [zd, zu]; exact dw_00.symm) | (rw [zd]; exact (dw_0u zu).symm) | (rw [zu]; exact dw_d1.symm) | exact (dw_dz (by omega)).symm | exact (dw_g zu zc63).symm) (by omega) ls (lv_sub hl [0, 3, 4] rfl)
  exact key_1 ((21 - 0) + 1) 0 h1 _ _ hM hD hS (by first | rfl | omega | assumption) ((s_fl_0 _ _ _).symm) (Nat.lt_succ_self _) ls (lv_sub hl [0, 1, 2] rfl)
