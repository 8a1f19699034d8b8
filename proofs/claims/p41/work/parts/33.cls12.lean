/-- cells that a set of addresses leaves alone -/
def XK (g : kG) (ws : va_W) (A : Nat → Prop) (H : Heap) : Prop := va_P g.1 kCl ws H ∧ ∀ (k : Nat) (q : Nat × va_E), ws[k]? = some q → ¬ A q.1
theorem XK.kept {g : kG} {ws : va_W} {A : Nat → Prop} {H H1 : Heap} (h : XK g ws A H) (hk : ∀ q : Nat, q < H.size → ¬ A q → H1[q]? = H[q]?) : XK g ws A H1 := ⟨h.1.kept (fun k q hq => hk q.1 (h.1 k q hq).lt (h.2 k q hq)), h.2⟩
theorem XK.at {g : kG} {ws : va_W} {A : Nat → Prop} {H H1 : Heap} {locs : List Loc} (h : XK g ws A H) (hS : va_S A H H1 locs) : XK g ws A H1 := h.kept hS.2.1
theorem D1 {A : Nat → Prop} {y : Nat} {e0 : va_E} (h : A y) : va_D A [(y, e0)] := ⟨fun i j p q hi hj _ => by
  match i, j, hi, hj with
  | 0, 0, _, _ => rfl
  | i + 1, _, hi, _ => simp at hi
  | 0, j + 1, _, hj => simp at hj, fun k q hk => by
  match k, hk with
  | 0, hk => cases hk; exact h
  | k + 1, hk => simp at hk⟩
set_option maxHeartbeats 4000000 in
set_option maxRecDepth 100000 in
theorem c_X2_copyShifted (l : Launch) (g : kG) (ye : Nat) (u0 : Int32) (u1 : Int32) (u2 : Int32) (u3 : Int32) (yf : Nat) (v0 : Int32) (v1 : Int32) (v2 : Int32) (v3 : Int32) (sh : Int32) : MV l yX2_copyShifted cX2_copyShifted 3 none (rr 0 0) [.ref ye, .ref yf, .int (sh)] ((fun H => va_P g.1 kCl [cE ye u0 u1 u2 u3] H ∧ XK g [cE yf v0 v1 v2 v3] (fun q => q = ye) H)) g 0 0 (fun q => q = ye) (fun H1 => va_P g.1 kCl [cE ye (v0 + sh) (v1 + sh) (v2 + sh) (v3 - sh)] H1) := by
  refine kOf (by decide) (Nat.le_of_ble_eq_true rfl) (fun p e s m below meth c ls hC hr hlk hin hK hP hl => ?_)
  have hx := hC.1
  have hb := hC.2.1
  have hml := hC.2.2.1
  have hown := hC.2.2.2.1
  have hts := hC.2.2.2.2
  have hl : lv_has ls 3 [(0, .ref ye), (1, .ref yf), (2, .int (sh))] := hl
  obtain ⟨hM, hX⟩ := hP
  have hD : va_D (fun q => q = ye) [cE ye u0 u1 u2 u3] := D1 rfl
  have hS : va_S (fun q => q = ye) s.heap s.heap [] := va_S.rf
  refine lv_aload_n hx hb dX2_copyShifted_0 rfl (lvG hl rfl) ?_
  refine lv_aload_n hx hb dX2_copyShifted_1 rfl (lvG hl rfl) ?_
  refine va_get (D := g.1) (ci := 2) (v := .int (v0)) (C := RX2) (T := TX2) (N := 4) hx hb hts i_X2 hown hK.1 hX.1 0 rfl rfl 0 (by decide) (hts _ w_68) (fun _ h9 => h9) rfl dX2_copyShifted_2 ?_
  refine lv_iload_n hx hb dX2_copyShifted_5 rfl (lvG hl rfl) ?_
  refine lv_iadd hx hb dX2_copyShifted_6 ?_
  refine va_put (D := g.1) (ci := 2) (v := .int (v0 + sh)) (ty := .int) (C := RX2) (T := TX2) (N := 4) hx hb hts i_X2 tyX2 tyX2_ok nmX2 hown hK.1 hM hD hS 0 rfl rfl 0 (by decide) (hts _ w_68) (fun _ h9 => h9) rfl (by decide +kernel) rfl rfl (Nat.le_of_ble_eq_true rfl) dX2_copyShifted_7 (fun H_1 locs_2 hP_3 hD_4 hS_5 => ?_)
  have hP_3 : va_P g.1 kCl [(ye, .inr (2, [.int (v0 + sh), .int (u1), .int (u2), .int (u3)]))] H_1 := hP_3
  have hD_4 : va_D (fun q => q = ye) [(ye, .inr (2, [.int (v0 + sh), .int (u1), .int (u2), .int (u3)]))] := hD_4
  have hX_6 := hX.at hS_5
  refine lv_aload_n hx hb dX2_copyShifted_10 rfl (lvG hl rfl) ?_
  refine lv_aload_n hx hb dX2_copyShifted_11 rfl (lvG hl rfl) ?_
  refine va_get (D := g.1) (ci := 2) (v := .int (v1)) (C := RX2) (T := TX2) (N := 4) hx hb hts i_X2 hown hK.1 hX_6.1 0 rfl rfl 1 (by decide) (hts _ w_70) (fun _ h9 => h9) rfl dX2_copyShifted_12 ?_
  refine lv_iload_n hx hb dX2_copyShifted_15 rfl (lvG hl rfl) ?_
  refine lv_iadd hx hb dX2_copyShifted_16 ?_
  refine va_put (D := g.1) (ci := 2) (v := .int (v1 + sh)) (ty := .int) (C := RX2) (T := TX2) (N := 4) hx hb hts i_X2 tyX2 tyX2_ok nmX2 hown hK.1 hP_3 hD_4 hS_5 0 rfl rfl 1 (by decide) (hts _ w_70) (fun _ h9 => h9) rfl (by decide +kernel) rfl rfl (Nat.le_of_ble_eq_true rfl) dX2_copyShifted_17 (fun H_7 locs_8 hP_9 hD_10 hS_11 => ?_)
  have hP_9 : va_P g.1 kCl [(ye, .inr (2, [.int (v0 + sh), .int (v1 + sh), .int (u2), .int (u3)]))] H_7 := hP_9
  have hD_10 : va_D (fun q => q = ye) [(ye, .inr (2, [.int (v0 + sh), .int (v1 + sh), .int (u2), .int (u3)]))] := hD_10
  have hX_12 := hX.at hS_11
  refine lv_aload_n hx hb dX2_copyShifted_20 rfl (lvG hl rfl) ?_
  refine lv_aload_n hx hb dX2_copyShifted_21 rfl (lvG hl rfl) ?_
  refine va_get (D := g.1) (ci := 2) (v := .int (v2)) (C := RX2) (T := TX2) (N := 4) hx hb hts i_X2 hown hK.1 hX_12.1 0 rfl rfl 2 (by decide) (hts _ w_72) (fun _ h9 => h9) rfl dX2_copyShifted_22 ?_
  refine lv_iload_n hx hb dX2_copyShifted_25 rfl (lvG hl rfl) ?_
  refine lv_iadd hx hb dX2_copyShifted_26 ?_
  refine va_put (D := g.1) (ci := 2) (v := .int (v2 + sh)) (ty := .int) (C := RX2) (T := TX2) (N := 4) hx hb hts i_X2 tyX2 tyX2_ok nmX2 hown hK.1 hP_9 hD_10 hS_11 0 rfl rfl 2 (by decide) (hts _ w_72) (fun _ h9 => h9) rfl (by decide +kernel) rfl rfl (Nat.le_of_ble_eq_true rfl) dX2_copyShifted_27 (fun H_13 locs_14 hP_15 hD_16 hS_17 => ?_)
  have hP_15 : va_P g.1 kCl [(ye, .inr (2, [.int (v0 + sh), .int (v1 + sh), .int (v2 + sh), .int (u3)]))] H_13 := hP_15
  have hD_16 : va_D (fun q => q = ye) [(ye, .inr (2, [.int (v0 + sh), .int (v1 + sh), .int (v2 + sh), .int (u3)]))] := hD_16
  have hX_18 := hX.at hS_17
  refine lv_aload_n hx hb dX2_copyShifted_30 rfl (lvG hl rfl) ?_
  refine lv_aload_n hx hb dX2_copyShifted_31 rfl (lvG hl rfl) ?_
  refine va_get (D := g.1) (ci := 2) (v := .int (v3)) (C := RX2) (T := TX2) (N := 4) hx hb hts i_X2 hown hK.1 hX_18.1 0 rfl rfl 3 (by decide) (hts _ w_74) (fun _ h9 => h9) rfl dX2_copyShifted_32 ?_
  refine lv_iload_n hx hb dX2_copyShifted_35 rfl (lvG hl rfl) ?_
  refine lv_isub hx hb dX2_copyShifted_36 ?_
  refine va_put (D := g.1) (ci := 2) (v := .int (v3 - sh)) (ty := .int) (C := RX2) (T := TX2) (N := 4) hx hb hts i_X2 tyX2 tyX2_ok nmX2 hown hK.1 hP_15 hD_16 hS_17 0 rfl rfl 3 (by decide) (hts _ w_74) (fun _ h9 => h9) rfl (by decide +kernel) rfl rfl (Nat.le_of_ble_eq_true rfl) dX2_copyShifted_37 (fun H_19 locs_20 hP_21 hD_22 hS_23 => ?_)
  have hP_21 : va_P g.1 kCl [(ye, .inr (2, [.int (v0 + sh), .int (v1 + sh), .int (v2 + sh), .int (v3 - sh)]))] H_19 := hP_21
  have hD_22 : va_D (fun q => q = ye) [(ye, .inr (2, [.int (v0 + sh), .int (v1 + sh), .int (v2 + sh), .int (v3 - sh)]))] := hD_22
  have hX_24 := hX.at hS_23
  exact k_vretM hC hr hlk hS_23 dX2_copyShifted_40 (hP_21)
def k_dk (f : Nat → Int32) (vc vr lk : Int32) : Nat → Int32 × Int32
  | 0 => (f 4 * (f 0 + vc), f 4)
  | j + 1 => if vr ≤ nI j then k_dk f vc vr lk j else if vc < nI j then ((k_dk f vc vr lk j).1 + q_i ((k_dk f vc vr lk j).1 * lk) (nI 1000), q_i ((k_dk f vc vr lk j).1 + q_i ((k_dk f vc vr lk j).1 * lk) (nI 1000)) (f 0 + nI j)) else k_dk f vc vr lk j
def k_do (f : Nat → Int32) (va vc vr lk : Int32) (j : Nat) : Int32 := if vr ≤ nI j then (k_dk f vc vr lk j).2 + q_i ((f 5 - (k_dk f vc vr lk j).2) * (nI j - vr + nI 1)) (nI 21 - vr) else if vc < nI j then (k_dk f vc vr lk (j + 1)).2 else if va ≤ nI j then f 4 else f 5
def k_di (f : Nat → Int32) (vm : Int32) (j : Nat) : Int32 := if nI j < vm then q_i (f 5 * (f 0 + vm)) (f 0 + nI j) else f 5
section KDK
variable {f : Nat → Int32} {va vc vr lk : Int32} {j : Nat}
theorem kk_r (h : vr ≤ nI j) : k_dk f vc vr lk (j + 1) = k_dk f vc vr lk j := by conv => { lhs; unfold k_dk }; rw [if_pos h]
theorem kk_x (h : ¬ vr ≤ nI j) (h2 : vc < nI j) : k_dk f vc vr lk (j + 1) = ((k_dk f vc vr lk j).1 + q_i ((k_dk f vc vr lk j).1 * lk) (nI 1000), q_i ((k_dk f vc vr lk j).1 + q_i ((k_dk f vc vr lk j).1 * lk) (nI 1000)) (f 0 + nI j)) := by conv => { lhs; unfold k_dk }; rw [if_neg h, if_pos h2]
theorem kk_c (h : ¬ vr ≤ nI j) (h2 : ¬ vc < nI j) : k_dk f vc vr lk (j + 1) = k_dk f vc vr lk j := by conv => { lhs; unfold k_dk }; rw [if_neg h, if_neg h2]
theorem ko_r (h : vr ≤ nI j) : k_do f va vc vr lk j = (k_dk f vc vr lk j).2 + q_i ((f 5 - (k_dk f vc vr lk j).2) * (nI j - vr + nI 1)) (nI 21 - vr) := by unfold k_do; rw [if_pos h]
theorem ko_x (h : ¬ vr ≤ nI j) (h2 : vc < nI j) : k_do f va vc vr lk j = q_i ((k_dk f vc vr lk j).1 + q_i ((k_dk f vc vr lk j).1 * lk) (nI 1000)) (f 0 + nI j) := by unfold k_do; rw [if_neg h, if_pos h2, kk_x h h2]
theorem ko_b (h : ¬ vr ≤ nI j) (h2 : ¬ vc < nI j) (h3 : va ≤ nI j) : k_do f va vc vr lk j = f 4 := by unfold k_do; rw [if_neg h, if_neg h2, if_pos h3]
theorem ko_a (h : ¬ vr ≤ nI j) (h2 : ¬ vc < nI j) (h3 : ¬ va ≤ nI j) : k_do f va vc vr lk j = f 5 := by unfold k_do; rw [if_neg h, if_neg h2, if_neg h3]
end KDK
set_option maxHeartbeats 4000000 in
set_option maxRecDepth 100000 in
theorem c_X4_drawIdealOutward (l : Launch) (g : kG) (x : Nat → Nat) (a : Nat → Nat) (n : Nat) (f : Nat → Int32) (ye : Nat) (va : Int32) (vc : Int32) (vr : Int32) (vm : Int32) (y : Nat) (h : Nat → Int32) (lk : Int32) : MV l yX4_drawIdealOutward cX4_drawIdealOutward 10 none (rr 2 43) [.ref (x 0), .ref y, .ref ye, .int (lk)] ((fun H => XK g [cM x (a 0) n, cS a f, cE ye va vc vr vm] (fun q => q = y) H ∧ va_P g.1 kCl [cI g y 21 h] H)) g 0 0 (fun q => q = y) (fun H1 => va_P g.1 kCl [cI g y 21 (s_fl h 0 (k_do f va vc vr lk) 21)] H1) := by
  refine kOf (by decide) (Nat.le_of_ble_eq_true rfl) (fun p e s m below meth c ls hC hr hlk hin hK hP hl => ?_)
  have hx := hC.1
  have hb := hC.2.1
  have hml := hC.2.2.1
  have hown := hC.2.2.2.1
  have hts := hC.2.2.2.2
  have hl : lv_has ls 10 [(0, .ref (x 0)), (1, .ref y), (2, .ref ye), (3, .int (lk))] := hl
  obtain ⟨hX, hM⟩ := hP
  have hD : va_D (fun q => q = y) [cI g y 21 h] := D1 rfl
  have hS : va_S (fun q => q = y) s.heap s.heap [] := va_S.rf
  refine lv_aload_n hx hb dX4_drawIdealOutward_0 rfl (lvG hl rfl) ?_
  refine va_get (D := g.1) (ci := 4) (v := .ref (a 0)) (C := RX4) (T := TX4) (N := 7) hx hb hts i_X4 hown hK.1 hX.1 0 rfl rfl 0 (by decide) (hts _ w_175) (fun _ h9 => h9) rfl dX4_drawIdealOutward_1 ?_
  refine va_get (D := g.1) (ci := 3) (v := .int (f 5)) (C := RX3) (T := TX3) (N := 13) hx hb hts i_X3 hown hK.1 hX.1 1 rfl rfl 5 (by decide) (hts _ w_133) (fun _ h9 => h9) rfl dX4_drawIdealOutward_4 ?_
  refine lv_istore (lv' := [(4, .int (f 5)), (0, .ref (x 0)), (1, .ref y), (2, .ref ye), (3, .int (lk))]) hx hb dX4_drawIdealOutward_7 hl (by decide) rfl (fun ls hl => ?_)
  refine lv_aload_n hx hb dX4_drawIdealOutward_9 rfl (lvG hl rfl) ?_
  refine va_get (D := g.1) (ci := 4) (v := .ref (a 0)) (C := RX4) (T := TX4) (N := 7) hx hb hts i_X4 hown hK.1 hX.1 0 rfl rfl 0 (by decide) (hts _ w_175) (fun _ h9 => h9) rfl dX4_drawIdealOutward_10 ?_
  refine va_get (D := g.1) (ci := 3) (v := .int (f 4)) (C := RX3) (T := TX3) (N := 13) hx hb hts i_X3 hown hK.1 hX.1 1 rfl rfl 4 (by decide) (hts _ w_131) (fun _ h9 => h9) rfl dX4_drawIdealOutward_13 ?_
  refine lv_aload_n hx hb dX4_drawIdealOutward_16 rfl (lvG hl rfl) ?_
  refine va_get (D := g.1) (ci := 4) (v := .ref (a 0)) (C := RX4) (T := TX4) (N := 7) hx hb hts i_X4 hown hK.1 hX.1 0 rfl rfl 0 (by decide) (hts _ w_175) (fun _ h9 => h9) rfl dX4_drawIdealOutward_17 ?_
  refine lv_aload_n hx hb dX4_drawIdealOutward_20 rfl (lvG hl rfl) ?_
  refine va_get (D := g.1) (ci := 2) (v := .int (vc)) (C := RX2) (T := TX2) (N := 4) hx hb hts i_X2 hown hK.1 hX.1 2 rfl rfl 1 (by decide) (hts _ w_71) (fun _ h9 => h9) rfl dX4_drawIdealOutward_21 ?_
  refine k_callPI (k_goV (rest := [.int (f 4)]) hC hK (c_X3_volumeAt l g a f vc) L_X4_X3_volumeAt (⟨⟨Nat.le_of_ble_eq_true rfl, Nat.le_of_ble_eq_true rfl⟩, ⟨rfl, rfl⟩, ⟨Nat.le_of_ble_eq_true rfl, Nat.le_of_ble_eq_true rfl⟩⟩) (k_recv hK hX.1 1 rfl rfl) ((hX.1.sub [1] rfl)) rfl hl.1 rfl (Nat.le_of_ble_eq_true rfl) dX4_drawIdealOutward_24) ?_
  refine lv_imul hx hb dX4_drawIdealOutward_27 ?_
  refine lv_istore (lv' := [(5, .int ((f 4) * (f 0 + vc))), (4, .int (f 5)), (0, .ref (x 0)), (1, .ref y), (2, .ref ye), (3, .int (lk))]) hx hb dX4_drawIdealOutward_28 hl (by decide) rfl (fun ls hl => ?_)
  refine lv_aload_n hx hb dX4_drawIdealOutward_30 rfl (lvG hl rfl) ?_
  refine va_get (D := g.1) (ci := 4) (v := .ref (a 0)) (C := RX4) (T := TX4) (N := 7) hx hb hts i_X4 hown hK.1 hX.1 0 rfl rfl 0 (by decide) (hts _ w_175) (fun _ h9 => h9) rfl dX4_drawIdealOutward_31 ?_
  refine va_get (D := g.1) (ci := 3) (v := .int (f 4)) (C := RX3) (T := TX3) (N := 13) hx hb hts i_X3 hown hK.1 hX.1 1 rfl rfl 4 (by decide) (hts _ w_131) (fun _ h9 => h9) rfl dX4_drawIdealOutward_34 ?_
  refine lv_istore (lv' := [(6, .int (f 4)), (5, .int ((f 4) * (f 0 + vc))), (4, .int (f 5)), (0, .ref (x 0)), (1, .ref y), (2, .ref ye), (3, .int (lk))]) hx hb dX4_drawIdealOutward_37 hl (by decide) rfl (fun ls hl => ?_)
  refine lv_iconst (v := nI 0) hx hb dX4_drawIdealOutward_39 (by decide) ?_
  refine lv_istore (lv' := [(7, .int (nI 0)), (6, .int (f 4)), (5, .int ((f 4) * (f 0 + vc))), (4, .int (f 5)), (0, .ref (x 0)), (1, .ref y), (2, .ref ye), (3, .int (lk))]) hx hb dX4_drawIdealOutward_40 hl (by decide) rfl (fun ls hl => ?_)
  have key_1 : ∀ (k_2 : Nat) (zs : Nat) (ee : Int32) (kk : Int32) (F9 : Nat → Int32) (H9 : Heap) (locs9 : List Loc) (hM9 : va_P g.1 kCl [cI g y 21 F9] H9) (hD9 : va_D (fun q => q = y) [cI g y 21 F9]) (hS9 : va_S (fun q => q = y) s.heap H9 locs9) (hz : zs ≤ 21) (hk : kk = (k_dk f vc vr lk zs).1) (he : ee = (k_dk f vc vr lk zs).2) (hF : F9 = s_fl h 0 (k_do f va vc vr lk) zs) (hk_k_2 : 21 - zs < k_2) (ls : Array Slot) (hl : lv_has ls 10 [(7, .int (nI zs)), (6, .int (ee)), (5, .int (kk)), (4, .int (f 5)), (0, .ref (x 0)), (1, .ref y), (2, .ref ye), (3, .int (lk))]), W p l e (rr 2 43) s m [.ref (x 0), .ref y, .ref ye, .int (lk)].toArray below meth c H9 locs9 0 0 (MQ below (qV (fun q => q = y) (fun H1 => va_P g.1 kCl [cI g y 21 (s_fl h 0 (k_do f va vc vr lk) 21)] H1)) [.ref (x 0), .ref y, .ref ye, .int (lk)].toArray s 0 0 (fun q => q = y)) (F0 m 42 ls ([])) := by
    intro k_2
    induction k_2 with
    | zero => intro zs ee kk F9 H9 locs9 hM9 hD9 hS9 hz hk he hF hk_k_2 ls hl; exact absurd hk_k_2 (Nat.not_lt_zero _)
    | succ k_2 ih_3 =>
      intro zs ee kk F9 H9 locs9 hM9 hD9 hS9 hz hk he hF hk_k_2 ls hl
      have hX9 := hX.at hS9
      refine lv_iload hx hb dX4_drawIdealOutward_42 (lvG hl rfl) ?_
      refine lv_bipush (v := nI 21) hx hb dX4_drawIdealOutward_44 (by decide) ?_
      refine n_icmp_ge (tgt := 176) hC dX4_drawIdealOutward_46 (by omega) (by omega) (by decide) (fun zc46 => ?_) (fun zc46 => ?_)
      · exact k_vretM hC hr hlk hS9 dX4_drawIdealOutward_176 (by rw [hF, show zs = 21 by omega] at hM9; exact hM9)
      · refine lv_iload hx hb dX4_drawIdealOutward_49 (lvG hl rfl) ?_
        refine lv_istore (lv' := [(8, .int (f 5)), (7, .int (nI zs)), (6, .int (ee)), (5, .int (kk)), (4, .int (f 5)), (0, .ref (x 0)), (1, .ref y), (2, .ref ye), (3, .int (lk))]) hx hb dX4_drawIdealOutward_51 hl (by decide) rfl (fun ls hl => ?_)
        refine lv_iload hx hb dX4_drawIdealOutward_53 (lvG hl rfl) ?_
        refine lv_aload_n hx hb dX4_drawIdealOutward_55 rfl (lvG hl rfl) ?_
        refine va_get (D := g.1) (ci := 2) (v := .int (vr)) (C := RX2) (T := TX2) (N := 4) hx hb hts i_X2 hown hK.1 hX9.1 2 rfl rfl 2 (by decide) (hts _ w_73) (fun _ h9 => h9) rfl dX4_drawIdealOutward_56 ?_
        refine lv_icmp_lt (tgt := 99) hx hb dX4_drawIdealOutward_59 (by decide) (fun zc59 => ?_) (fun zc59 => ?_)
        · refine lv_iload hx hb dX4_drawIdealOutward_99 (lvG hl rfl) ?_
          refine lv_aload_n hx hb dX4_drawIdealOutward_101 rfl (lvG hl rfl) ?_
          refine va_get (D := g.1) (ci := 2) (v := .int (vc)) (C := RX2) (T := TX2) (N := 4) hx hb hts i_X2 hown hK.1 hX9.1 2 rfl rfl 1 (by decide) (hts _ w_71) (fun _ h9 => h9) rfl dX4_drawIdealOutward_102 ?_
          refine lv_icmp_le (tgt := 146) hx hb dX4_drawIdealOutward_105 (by decide) (fun zc105 => ?_) (fun zc105 => ?_)
          · refine lv_iload hx hb dX4_drawIdealOutward_146 (lvG hl rfl) ?_
            refine lv_aload_n hx hb dX4_drawIdealOutward_148 rfl (lvG hl rfl) ?_
            refine va_get (D := g.1) (ci := 2) (v := .int (va)) (C := RX2) (T := TX2) (N := 4) hx hb hts i_X2 hown hK.1 hX9.1 2 rfl rfl 0 (by decide) (hts _ w_69) (fun _ h9 => h9) rfl dX4_drawIdealOutward_149 ?_
            refine lv_icmp_lt (tgt := 164) hx hb dX4_drawIdealOutward_152 (by decide) (fun zc152 => ?_) (fun zc152 => ?_)
            · refine lv_aload_n hx hb dX4_drawIdealOutward_164 rfl (lvG hl rfl) ?_
              refine lv_iload hx hb dX4_drawIdealOutward_165 (lvG hl rfl) ?_
              refine lv_iload hx hb dX4_drawIdealOutward_167 (lvG hl rfl) ?_
              refine k_ast (k := zs) (v := f 5) hC hK hM9 hD9 hS9 0 rfl (by omega) (by decide) dX4_drawIdealOutward_169 (fun H_4 locs_5 hP_6 hD_7 hS_8 => ?_)
              have hP_6 : va_P g.1 kCl [cI g y 21 (upd F9 zs (f 5))] H_4 := hP_6
              have hD_7 : va_D (fun q => q = y) [cI g y 21 (upd F9 zs (f 5))] := hD_7
              have hX_9 := hX.at hS_8
              refine n_iinc (lv' := [(7, .int (nI (zs + 1))), (8, .int (f 5)), (6, .int (ee)), (5, .int (kk)), (4, .int (f 5)), (0, .ref (x 0)), (1, .ref y), (2, .ref ye), (3, .int (lk))]) hC dX4_drawIdealOutward_170 hl rfl (by decide) rfl (fun ls hl => ?_)
              refine lv_goto (tgt := 42) hx hb dX4_drawIdealOutward_173 (by decide) ?_
              exact ih_3 (zs + 1) ee kk (upd F9 zs (f 5)) _ _ hP_6 hD_7 hS_8 (by first | omega | assumption | rfl) (by first | (rw [kk_r (Int32.not_lt.mp zc59)]; assumption) | (rw [kk_x (Int32.not_le.mpr zc59) (Int32.not_le.mp zc105), ← hk]; done) | (rw [kk_c (Int32.not_le.mpr zc59) (Int32.not_lt.mpr zc105)]; assumption)) (by first | (rw [kk_r (Int32.not_lt.mp zc59)]; assumption) | (rw [kk_x (Int32.not_le.mpr zc59) (Int32.not_le.mp zc105), ← hk]; done) | (rw [kk_c (Int32.not_le.mpr zc59) (Int32.not_lt.mpr zc105)]; assumption)) (by have e9 := s_fl_succ h 0 (k_do f va vc vr lk) zs; rw [Nat.zero_add, ← hF] at e9; rw [← e9]; first | (rw [ko_r (Int32.not_lt.mp zc59), ← he]; done) | (rw [ko_x (Int32.not_le.mpr zc59) (Int32.not_le.mp zc105), ← hk]; done) | (rw [ko_b (Int32.not_le.mpr zc59) (Int32.not_lt.mpr zc105) (Int32.not_lt.mp zc152)]; done) | (rw [ko_a (Int32.not_le.mpr zc59) (Int32.not_lt.mpr zc105) (Int32.not_le.mpr zc152)]; done)) (by omega) ls (lv_sub hl [0, 2, 3, 4, 5, 6, 7, 8] rfl)
            · refine lv_aload_n hx hb dX4_drawIdealOutward_155 rfl (lvG hl rfl) ?_
              refine va_get (D := g.1) (ci := 4) (v := .ref (a 0)) (C := RX4) (T := TX4) (N := 7) hx hb hts i_X4 hown hK.1 hX9.1 0 rfl rfl 0 (by decide) (hts _ w_175) (fun _ h9 => h9) rfl dX4_drawIdealOutward_156 ?_
              refine va_get (D := g.1) (ci := 3) (v := .int (f 4)) (C := RX3) (T := TX3) (N := 13) hx hb hts i_X3 hown hK.1 hX9.1 1 rfl rfl 4 (by decide) (hts _ w_131) (fun _ h9 => h9) rfl dX4_drawIdealOutward_159 ?_
              refine lv_istore (lv' := [(8, .int (f 4)), (7, .int (nI zs)), (6, .int (ee)), (5, .int (kk)), (4, .int (f 5)), (0, .ref (x 0)), (1, .ref y), (2, .ref ye), (3, .int (lk))]) hx hb dX4_drawIdealOutward_162 hl (by decide) rfl (fun ls hl => ?_)
              refine lv_aload_n hx hb dX4_drawIdealOutward_164 rfl (lvG hl rfl) ?_
              refine lv_iload hx hb dX4_drawIdealOutward_165 (lvG hl rfl) ?_
              refine lv_iload hx hb dX4_drawIdealOutward_167 (lvG hl rfl) ?_
              refine k_ast (k := zs) (v := f 4) hC hK hM9 hD9 hS9 0 rfl (by omega) (by decide) dX4_drawIdealOutward_169 (fun H_10 locs_11 hP_12 hD_13 hS_14 => ?_)
              have hP_12 : va_P g.1 kCl [cI g y 21 (upd F9 zs (f 4))] H_10 := hP_12
              have hD_13 : va_D (fun q => q = y) [cI g y 21 (upd F9 zs (f 4))] := hD_13
              have hX_15 := hX.at hS_14
              refine n_iinc (lv' := [(7, .int (nI (zs + 1))), (8, .int (f 4)), (6, .int (ee)), (5, .int (kk)), (4, .int (f 5)), (0, .ref (x 0)), (1, .ref y), (2, .ref ye), (3, .int (lk))]) hC dX4_drawIdealOutward_170 hl rfl (by decide) rfl (fun ls hl => ?_)
              refine lv_goto (tgt := 42) hx hb dX4_drawIdealOutward_173 (by decide) ?_
              exact ih_3 (zs + 1) ee kk (upd F9 zs (f 4)) _ _ hP_12 hD_13 hS_14 (by first | omega | assumption | rfl) (by first | (rw [kk_r (Int32.not_lt.mp zc59)]; assumption) | (rw [kk_x (Int32.not_le.mpr zc59) (Int32.not_le.mp zc105), ← hk]; done) | (rw [kk_c (Int32.not_le.mpr zc59) (Int32.not_lt.mpr zc105)]; assumption)) (by first | (rw [kk_r (Int32.not_lt.mp zc59)]; assumption) | (rw [kk_x (Int32.not_le.mpr zc59) (Int32.not_le.mp zc105), ← hk]; done) | (rw [kk_c (Int32.not_le.mpr zc59) (Int32.not_lt.mpr zc105)]; assumption)) (by have e9 := s_fl_succ h 0 (k_do f va vc vr lk) zs; rw [Nat.zero_add, ← hF] at e9; rw [← e9]; first | (rw [ko_r (Int32.not_lt.mp zc59), ← he]; done) | (rw [ko_x (Int32.not_le.mpr zc59) (Int32.not_le.mp zc105), ← hk]; done) | (rw [ko_b (Int32.not_le.mpr zc59) (Int32.not_lt.mpr zc105) (Int32.not_lt.mp zc152)]; done) | (rw [ko_a (Int32.not_le.mpr zc59) (Int32.not_lt.mpr zc105) (Int32.not_le.mpr zc152)]; done)) (by omega) ls (lv_sub hl [0, 2, 3, 4, 5, 6, 7, 8] rfl)
          · refine lv_iload hx hb dX4_drawIdealOutward_108 (lvG hl rfl) ?_
            refine lv_iload hx hb dX4_drawIdealOutward_110 (lvG hl rfl) ?_
            refine lv_iload_n hx hb dX4_drawIdealOutward_112 rfl (lvG hl rfl) ?_
            refine lv_imul hx hb dX4_drawIdealOutward_113 ?_
            refine lv_sipush (v := nI 1000) hx hb dX4_drawIdealOutward_114 (by decide) ?_
            refine k_callPI (k_goS (rest := [.int (kk)]) hC hK (c_X4_quotient l g (kk * lk) (nI 1000)) L_X4_X4_quotient (⟨⟨Nat.le_of_ble_eq_true rfl, Nat.le_of_ble_eq_true rfl⟩, ⟨rfl, rfl⟩, ⟨Nat.le_of_ble_eq_true rfl, Nat.le_of_ble_eq_true rfl⟩⟩) (trivial) rfl hl.1 rfl (Nat.le_of_ble_eq_true rfl) dX4_drawIdealOutward_117) ?_
            refine lv_iadd hx hb dX4_drawIdealOutward_120 ?_
            refine lv_istore (lv' := [(5, .int (kk + (q_i (kk * lk) (nI 1000)))), (8, .int (f 5)), (7, .int (nI zs)), (6, .int (ee)), (4, .int (f 5)), (0, .ref (x 0)), (1, .ref y), (2, .ref ye), (3, .int (lk))]) hx hb dX4_drawIdealOutward_121 hl (by decide) rfl (fun ls hl => ?_)
            refine lv_iload hx hb dX4_drawIdealOutward_123 (lvG hl rfl) ?_
            refine lv_aload_n hx hb dX4_drawIdealOutward_125 rfl (lvG hl rfl) ?_
            refine va_get (D := g.1) (ci := 4) (v := .ref (a 0)) (C := RX4) (T := TX4) (N := 7) hx hb hts i_X4 hown hK.1 hX9.1 0 rfl rfl 0 (by decide) (hts _ w_175) (fun _ h9 => h9) rfl dX4_drawIdealOutward_126 ?_
            refine lv_iload hx hb dX4_drawIdealOutward_129 (lvG hl rfl) ?_
            refine k_callPI (k_goV (rest := [.int (kk + (q_i (kk * lk) (nI 1000)))]) hC hK (c_X3_volumeAt l g a f (nI zs)) L_X4_X3_volumeAt (⟨⟨Nat.le_of_ble_eq_true rfl, Nat.le_of_ble_eq_true rfl⟩, ⟨rfl, rfl⟩, ⟨Nat.le_of_ble_eq_true rfl, Nat.le_of_ble_eq_true rfl⟩⟩) (k_recv hK hX9.1 1 rfl rfl) ((hX9.1.sub [1] rfl)) rfl hl.1 rfl (Nat.le_of_ble_eq_true rfl) dX4_drawIdealOutward_131) ?_
            refine k_callPI (k_goS (rest := []) hC hK (c_X4_quotient l g (kk + (q_i (kk * lk) (nI 1000))) (f 0 + (nI zs))) L_X4_X4_quotient (⟨⟨Nat.le_of_ble_eq_true rfl, Nat.le_of_ble_eq_true rfl⟩, ⟨rfl, rfl⟩, ⟨Nat.le_of_ble_eq_true rfl, Nat.le_of_ble_eq_true rfl⟩⟩) (trivial) rfl hl.1 rfl (Nat.le_of_ble_eq_true rfl) dX4_drawIdealOutward_134) ?_
            refine lv_istore (lv' := [(8, .int (q_i (kk + (q_i (kk * lk) (nI 1000))) (f 0 + (nI zs)))), (5, .int (kk + (q_i (kk * lk) (nI 1000)))), (7, .int (nI zs)), (6, .int (ee)), (4, .int (f 5)), (0, .ref (x 0)), (1, .ref y), (2, .ref ye), (3, .int (lk))]) hx hb dX4_drawIdealOutward_137 hl (by decide) rfl (fun ls hl => ?_)
            refine lv_iload hx hb dX4_drawIdealOutward_139 (lvG hl rfl) ?_
            refine lv_istore (lv' := [(6, .int (q_i (kk + (q_i (kk * lk) (nI 1000))) (f 0 + (nI zs)))), (8, .int (q_i (kk + (q_i (kk * lk) (nI 1000))) (f 0 + (nI zs)))), (5, .int (kk + (q_i (kk * lk) (nI 1000)))), (7, .int (nI zs)), (4, .int (f 5)), (0, .ref (x 0)), (1, .ref y), (2, .ref ye), (3, .int (lk))]) hx hb dX4_drawIdealOutward_141 hl (by decide) rfl (fun ls hl => ?_)
            refine lv_goto (tgt := 164) hx hb dX4_drawIdealOutward_143 (by decide) ?_
            refine lv_aload_n hx hb dX4_drawIdealOutward_164 rfl (lvG hl rfl) ?_
            refine lv_iload hx hb dX4_drawIdealOutward_165 (lvG hl rfl) ?_
            refine lv_iload hx hb dX4_drawIdealOutward_167 (lvG hl rfl) ?_
            refine k_ast (k := zs) (v := q_i (kk + (q_i (kk * lk) (nI 1000))) (f 0 + (nI zs))) hC hK hM9 hD9 hS9 0 rfl (by omega) (by decide) dX4_drawIdealOutward_169 (fun H_16 locs_17 hP_18 hD_19 hS_20 => ?_)
            have hP_18 : va_P g.1 kCl [cI g y 21 (upd F9 zs (q_i (kk + (q_i (kk * lk) (nI 1000))) (f 0 + (nI zs))))] H_16 := hP_18
            have hD_19 : va_D (fun q => q = y) [cI g y 21 (upd F9 zs (q_i (kk + (q_i (kk * lk) (nI 1000))) (f 0 + (nI zs))))] := hD_19
            have hX_21 := hX.at hS_20
            refine n_iinc (lv' := [(7, .int (nI (zs + 1))), (6, .int (q_i (kk + (q_i (kk * lk) (nI 1000))) (f 0 + (nI zs)))), (8, .int (q_i (kk + (q_i (kk * lk) (nI 1000))) (f 0 + (nI zs)))), (5, .int (kk + (q_i (kk * lk) (nI 1000)))), (4, .int (f 5)), (0, .ref (x 0)), (1, .ref y), (2, .ref ye), (3, .int (lk))]) hC dX4_drawIdealOutward_170 hl rfl (by decide) rfl (fun ls hl => ?_)
            refine lv_goto (tgt := 42) hx hb dX4_drawIdealOutward_173 (by decide) ?_
            exact ih_3 (zs + 1) (q_i (kk + (q_i (kk * lk) (nI 1000))) (f 0 + (nI zs))) (kk + (q_i (kk * lk) (nI 1000))) (upd F9 zs (q_i (kk + (q_i (kk * lk) (nI 1000))) (f 0 + (nI zs)))) _ _ hP_18 hD_19 hS_20 (by first | omega | assumption | rfl) (by first | (rw [kk_r (Int32.not_lt.mp zc59)]; assumption) | (rw [kk_x (Int32.not_le.mpr zc59) (Int32.not_le.mp zc105), ← hk]; done) | (rw [kk_c (Int32.not_le.mpr zc59) (Int32.not_lt.mpr zc105)]; assumption)) (by first | (rw [kk_r (Int32.not_lt.mp zc59)]; assumption) | (rw [kk_x (Int32.not_le.mpr zc59) (Int32.not_le.mp zc105), ← hk]; done) | (rw [kk_c (Int32.not_le.mpr zc59) (Int32.not_lt.mpr zc105)]; assumption)) (by have e9 := s_fl_succ h 0 (k_do f va vc vr lk) zs; rw [Nat.zero_add, ← hF] at e9; rw [← e9]; first | (rw [ko_r (Int32.not_lt.mp zc59), ← he]; done) | (rw [ko_x (Int32.not_le.mpr zc59) (Int32.not_le.mp zc105), ← hk]; done) | (rw [ko_b (Int32.not_le.mpr zc59) (Int32.not_lt.mpr zc105) (Int32.not_lt.mp zc152)]; done) | (rw [ko_a (Int32.not_le.mpr zc59) (Int32.not_lt.mpr zc105) (Int32.not_le.mpr zc152)]; done)) (by omega) ls (lv_sub hl [0, 1, 3, 4, 5, 6, 7, 8] rfl)
        · refine lv_iload hx hb dX4_drawIdealOutward_62 (lvG hl rfl) ?_
          refine lv_iload hx hb dX4_drawIdealOutward_64 (lvG hl rfl) ?_
          refine lv_isub hx hb dX4_drawIdealOutward_66 ?_
          refine lv_iload hx hb dX4_drawIdealOutward_67 (lvG hl rfl) ?_
          refine lv_aload_n hx hb dX4_drawIdealOutward_69 rfl (lvG hl rfl) ?_
          refine va_get (D := g.1) (ci := 2) (v := .int (vr)) (C := RX2) (T := TX2) (N := 4) hx hb hts i_X2 hown hK.1 hX9.1 2 rfl rfl 2 (by decide) (hts _ w_73) (fun _ h9 => h9) rfl dX4_drawIdealOutward_70 ?_
          refine lv_isub hx hb dX4_drawIdealOutward_73 ?_
          refine lv_iconst (v := nI 1) hx hb dX4_drawIdealOutward_74 (by decide) ?_
          refine lv_iadd hx hb dX4_drawIdealOutward_75 ?_
          refine lv_imul hx hb dX4_drawIdealOutward_76 ?_
          refine lv_istore (lv' := [(9, .int (((f 5) - ee) * (((nI zs) - vr) + (nI 1)))), (8, .int (f 5)), (7, .int (nI zs)), (6, .int (ee)), (5, .int (kk)), (4, .int (f 5)), (0, .ref (x 0)), (1, .ref y), (2, .ref ye), (3, .int (lk))]) hx hb dX4_drawIdealOutward_77 hl (by decide) rfl (fun ls hl => ?_)
          refine lv_iload hx hb dX4_drawIdealOutward_79 (lvG hl rfl) ?_
          refine lv_iload hx hb dX4_drawIdealOutward_81 (lvG hl rfl) ?_
          refine lv_bipush (v := nI 21) hx hb dX4_drawIdealOutward_83 (by decide) ?_
          refine lv_aload_n hx hb dX4_drawIdealOutward_85 rfl (lvG hl rfl) ?_
          refine va_get (D := g.1) (ci := 2) (v := .int (vr)) (C := RX2) (T := TX2) (N := 4) hx hb hts i_X2 hown hK.1 hX9.1 2 rfl rfl 2 (by decide) (hts _ w_73) (fun _ h9 => h9) rfl dX4_drawIdealOutward_86 ?_
          refine lv_isub hx hb dX4_drawIdealOutward_89 ?_
          refine k_callPI (k_goS (rest := [.int (ee)]) hC hK (c_X4_quotient l g (((f 5) - ee) * (((nI zs) - vr) + (nI 1))) ((nI 21) - vr)) L_X4_X4_quotient (⟨⟨Nat.le_of_ble_eq_true rfl, Nat.le_of_ble_eq_true rfl⟩, ⟨rfl, rfl⟩, ⟨Nat.le_of_ble_eq_true rfl, Nat.le_of_ble_eq_true rfl⟩⟩) (trivial) rfl hl.1 rfl (Nat.le_of_ble_eq_true rfl) dX4_drawIdealOutward_90) ?_
          refine lv_iadd hx hb dX4_drawIdealOutward_93 ?_
          refine lv_istore (lv' := [(8, .int (ee + (q_i (((f 5) - ee) * (((nI zs) - vr) + (nI 1))) ((nI 21) - vr)))), (9, .int (((f 5) - ee) * (((nI zs) - vr) + (nI 1)))), (7, .int (nI zs)), (6, .int (ee)), (5, .int (kk)), (4, .int (f 5)), (0, .ref (x 0)), (1, .ref y), (2, .ref ye), (3, .int (lk))]) hx hb dX4_drawIdealOutward_94 hl (by decide) rfl (fun ls hl => ?_)
          refine lv_goto (tgt := 164) hx hb dX4_drawIdealOutward_96 (by decide) ?_
          refine lv_aload_n hx hb dX4_drawIdealOutward_164 rfl (lvG hl rfl) ?_
          refine lv_iload hx hb dX4_drawIdealOutward_165 (lvG hl rfl) ?_
          refine lv_iload hx hb dX4_drawIdealOutward_167 (lvG hl rfl) ?_
          refine k_ast (k := zs) (v := ee + (q_i (((f 5) - ee) * (((nI zs) - vr) + (nI 1))) ((nI 21) - vr))) hC hK hM9 hD9 hS9 0 rfl (by omega) (by decide) dX4_drawIdealOutward_169 (fun H_22 locs_23 hP_24 hD_25 hS_26 => ?_)
          have hP_24 : va_P g.1 kCl [cI g y 21 (upd F9 zs (ee + (q_i (((f 5) - ee) * (((nI zs) - vr) + (nI 1))) ((nI 21) - vr))))] H_22 := hP_24
          have hD_25 : va_D (fun q => q = y) [cI g y 21 (upd F9 zs (ee + (q_i (((f 5) - ee) * (((nI zs) - vr) + (nI 1))) ((nI 21) - vr))))] := hD_25
          have hX_27 := hX.at hS_26
          refine n_iinc (lv' := [(7, .int (nI (zs + 1))), (8, .int (ee + (q_i (((f 5) - ee) * (((nI zs) - vr) + (nI 1))) ((nI 21) - vr)))), (9, .int (((f 5) - ee) * (((nI zs) - vr) + (nI 1)))), (6, .int (ee)), (5, .int (kk)), (4, .int (f 5)), (0, .ref (x 0)), (1, .ref y), (2, .ref ye), (3, .int (lk))]) hC dX4_drawIdealOutward_170 hl rfl (by decide) rfl (fun ls hl => ?_)
          refine lv_goto (tgt := 42) hx hb dX4_drawIdealOutward_173 (by decide) ?_
          exact ih_3 (zs + 1) ee kk (upd F9 zs (ee + (q_i (((f 5) - ee) * (((nI zs) - vr) + (nI 1))) ((nI 21) - vr)))) _ _ hP_24 hD_25 hS_26 (by first | omega | assumption | rfl) (by first | (rw [kk_r (Int32.not_lt.mp zc59)]; assumption) | (rw [kk_x (Int32.not_le.mpr zc59) (Int32.not_le.mp zc105), ← hk]; done) | (rw [kk_c (Int32.not_le.mpr zc59) (Int32.not_lt.mpr zc105)]; assumption)) (by first | (rw [kk_r (Int32.not_lt.mp zc59)]; assumption) | (rw [kk_x (Int32.not_le.mpr zc59) (Int32.not_le.mp zc105), ← hk]; done) | (rw [kk_c (Int32.not_le.mpr zc59) (Int32.not_lt.mpr zc105)]; assumption)) (by have e9 := s_fl_succ h 0 (k_do f va vc vr lk) zs; rw [Nat.zero_add, ← hF] at e9; rw [← e9]; first | (rw [ko_r (Int32.not_lt.mp zc59), ← he]; done) | (rw [ko_x (Int32.not_le.mpr zc59) (Int32.not_le.mp zc105), ← hk]; done) | (rw [ko_b (Int32.not_le.mpr zc59) (Int32.not_lt.mpr zc105) (Int32.not_lt.mp zc152)]; done) | (rw [ko_a (Int32.not_le.mpr zc59) (Int32.not_lt.mpr zc105) (Int32.not_le.mpr zc152)]; done)) (by omega) ls (lv_sub hl [0, 3, 4, 5, 6, 7, 8, 9] rfl)
  exact key_1 ((21 - 0) + 1) 0 (f 4) ((f 4) * (f 0 + vc)) h _ _ hM hD hS (by first | rfl | omega | assumption) (rfl) (rfl) ((s_fl_0 _ _ _).symm) (Nat.lt_succ_self _) ls (lv_sub hl [0, 1, 2, 3, 4, 5, 6, 7] rfl)
set_option maxHeartbeats 4000000 in
set_option maxRecDepth 100000 in
theorem c_X4_drawIdealReturn (l : Launch) (g : kG) (x : Nat → Nat) (a : Nat → Nat) (n : Nat) (f : Nat → Int32) (ye : Nat) (va : Int32) (vc : Int32) (vr : Int32) (vm : Int32) (y : Nat) (h : Nat → Int32) : MV l yX4_drawIdealReturn cX4_drawIdealReturn 7 none (rr 2 43) [.ref (x 0), .ref y, .ref ye] ((fun H => XK g [cM x (a 0) n, cS a f, cE ye va vc vr vm] (fun q => q = y) H ∧ va_P g.1 kCl [cI g y 21 h] H)) g 0 0 (fun q => q = y) (fun H1 => va_P g.1 kCl [cI g y 21 (s_fl h 0 (k_di f vm) 21)] H1) := by
  refine kOf (by decide) (Nat.le_of_ble_eq_true rfl) (fun p e s m below meth c ls hC hr hlk hin hK hP hl => ?_)
  have hx := hC.1
  have hb := hC.2.1
  have hml := hC.2.2.1
  have hown := hC.2.2.2.1
  have hts := hC.2.2.2.2
  have hl : lv_has ls 7 [(0, .ref (x 0)), (1, .ref y), (2, .ref ye)] := hl
  obtain ⟨hX, hM⟩ := hP
  have hD : va_D (fun q => q = y) [cI g y 21 h] := D1 rfl
  have hS : va_S (fun q => q = y) s.heap s.heap [] := va_S.rf
  refine lv_aload_n hx hb dX4_drawIdealReturn_0 rfl (lvG hl rfl) ?_
  refine va_get (D := g.1) (ci := 4) (v := .ref (a 0)) (C := RX4) (T := TX4) (N := 7) hx hb hts i_X4 hown hK.1 hX.1 0 rfl rfl 0 (by decide) (hts _ w_175) (fun _ h9 => h9) rfl dX4_drawIdealReturn_1 ?_
  refine va_get (D := g.1) (ci := 3) (v := .int (f 5)) (C := RX3) (T := TX3) (N := 13) hx hb hts i_X3 hown hK.1 hX.1 1 rfl rfl 5 (by decide) (hts _ w_133) (fun _ h9 => h9) rfl dX4_drawIdealReturn_4 ?_
  refine lv_istore_n (lv' := [(3, .int (f 5)), (0, .ref (x 0)), (1, .ref y), (2, .ref ye)]) hx hb dX4_drawIdealReturn_7 rfl hl (by decide) rfl (fun ls hl => ?_)
  refine lv_iload_n hx hb dX4_drawIdealReturn_8 rfl (lvG hl rfl) ?_
  refine lv_aload_n hx hb dX4_drawIdealReturn_9 rfl (lvG hl rfl) ?_
  refine va_get (D := g.1) (ci := 4) (v := .ref (a 0)) (C := RX4) (T := TX4) (N := 7) hx hb hts i_X4 hown hK.1 hX.1 0 rfl rfl 0 (by decide) (hts _ w_175) (fun _ h9 => h9) rfl dX4_drawIdealReturn_10 ?_
  refine lv_aload_n hx hb dX4_drawIdealReturn_13 rfl (lvG hl rfl) ?_
  refine va_get (D := g.1) (ci := 2) (v := .int (vm)) (C := RX2) (T := TX2) (N := 4) hx hb hts i_X2 hown hK.1 hX.1 2 rfl rfl 3 (by decide) (hts _ w_75) (fun _ h9 => h9) rfl dX4_drawIdealReturn_14 ?_
  refine k_callPI (k_goV (rest := [.int (f 5)]) hC hK (c_X3_volumeAt l g a f vm) L_X4_X3_volumeAt (⟨⟨Nat.le_of_ble_eq_true rfl, Nat.le_of_ble_eq_true rfl⟩, ⟨rfl, rfl⟩, ⟨Nat.le_of_ble_eq_true rfl, Nat.le_of_ble_eq_true rfl⟩⟩) (k_recv hK hX.1 1 rfl rfl) ((hX.1.sub [1] rfl)) rfl hl.1 rfl (Nat.le_of_ble_eq_true rfl) dX4_drawIdealReturn_17) ?_
  refine lv_imul hx hb dX4_drawIdealReturn_20 ?_
  refine lv_istore (lv' := [(4, .int ((f 5) * (f 0 + vm))), (3, .int (f 5)), (0, .ref (x 0)), (1, .ref y), (2, .ref ye)]) hx hb dX4_drawIdealReturn_21 hl (by decide) rfl (fun ls hl => ?_)
  refine lv_iconst (v := nI 0) hx hb dX4_drawIdealReturn_23 (by decide) ?_
  refine lv_istore (lv' := [(5, .int (nI 0)), (4, .int ((f 5) * (f 0 + vm))), (3, .int (f 5)), (0, .ref (x 0)), (1, .ref y), (2, .ref ye)]) hx hb dX4_drawIdealReturn_24 hl (by decide) rfl (fun ls hl => ?_)
  have key_1 : ∀ (k_2 : Nat) (zs : Nat) (F9 : Nat → Int32) (H9 : Heap) (locs9 : List Loc) (hM9 : va_P g.1 kCl [cI g y 21 F9] H9) (hD9 : va_D (fun q => q = y) [cI g y 21 F9]) (hS9 : va_S (fun q => q = y) s.heap H9 locs9) (hz : zs ≤ 21) (hF : F9 = s_fl h 0 (k_di f vm) zs) (hk_k_2 : 21 - zs < k_2) (ls : Array Slot) (hl : lv_has ls 7 [(5, .int (nI zs)), (4, .int ((f 5) * (f 0 + vm))), (3, .int (f 5)), (0, .ref (x 0)), (1, .ref y), (2, .ref ye)]), W p l e (rr 2 43) s m [.ref (x 0), .ref y, .ref ye].toArray below meth c H9 locs9 0 0 (MQ below (qV (fun q => q = y) (fun H1 => va_P g.1 kCl [cI g y 21 (s_fl h 0 (k_di f vm) 21)] H1)) [.ref (x 0), .ref y, .ref ye].toArray s 0 0 (fun q => q = y)) (F0 m 26 ls ([])) := by
    intro k_2
    induction k_2 with
    | zero => intro zs F9 H9 locs9 hM9 hD9 hS9 hz hF hk_k_2 ls hl; exact absurd hk_k_2 (Nat.not_lt_zero _)
    | succ k_2 ih_3 =>
      intro zs F9 H9 locs9 hM9 hD9 hS9 hz hF hk_k_2 ls hl
      have hX9 := hX.at hS9
      refine lv_iload hx hb dX4_drawIdealReturn_26 (lvG hl rfl) ?_
      refine lv_bipush (v := nI 21) hx hb dX4_drawIdealReturn_28 (by decide) ?_
      refine n_icmp_ge (tgt := 82) hC dX4_drawIdealReturn_30 (by omega) (by omega) (by decide) (fun zc30 => ?_) (fun zc30 => ?_)
      · exact k_vretM hC hr hlk hS9 dX4_drawIdealReturn_82 (by rw [hF, show zs = 21 by omega] at hM9; exact hM9)
      · refine lv_iload hx hb dX4_drawIdealReturn_33 (lvG hl rfl) ?_
        refine lv_aload_n hx hb dX4_drawIdealReturn_35 rfl (lvG hl rfl) ?_
        refine va_get (D := g.1) (ci := 2) (v := .int (vm)) (C := RX2) (T := TX2) (N := 4) hx hb hts i_X2 hown hK.1 hX9.1 2 rfl rfl 3 (by decide) (hts _ w_75) (fun _ h9 => h9) rfl dX4_drawIdealReturn_36 ?_
        refine lv_icmp_ge (tgt := 46) hx hb dX4_drawIdealReturn_39 (by decide) (fun zc39 => ?_) (fun zc39 => ?_)
        · refine lv_iconst (v := nI 0) hx hb dX4_drawIdealReturn_46 (by decide) ?_
          refine lv_istore (lv' := [(6, .int (nI 0)), (5, .int (nI zs)), (4, .int ((f 5) * (f 0 + vm))), (3, .int (f 5)), (0, .ref (x 0)), (1, .ref y), (2, .ref ye)]) hx hb dX4_drawIdealReturn_47 hl (by decide) rfl (fun ls hl => ?_)
          refine lv_aload_n hx hb dX4_drawIdealReturn_49 rfl (lvG hl rfl) ?_
          refine lv_iload hx hb dX4_drawIdealReturn_50 (lvG hl rfl) ?_
          refine lv_iload hx hb dX4_drawIdealReturn_52 (lvG hl rfl) ?_
          refine n_if_eq (tgt := 74) hC dX4_drawIdealReturn_54 (by decide) (by decide) (fun _ => ?_) (fun c => absurd c (by decide))
          refine lv_iload_n hx hb dX4_drawIdealReturn_74 rfl (lvG hl rfl) ?_
          refine k_ast (k := zs) (v := f 5) hC hK hM9 hD9 hS9 0 rfl (by omega) (by decide) dX4_drawIdealReturn_75 (fun H_4 locs_5 hP_6 hD_7 hS_8 => ?_)
          have hP_6 : va_P g.1 kCl [cI g y 21 (upd F9 zs (f 5))] H_4 := hP_6
          have hD_7 : va_D (fun q => q = y) [cI g y 21 (upd F9 zs (f 5))] := hD_7
          have hX_9 := hX.at hS_8
          refine n_iinc (lv' := [(5, .int (nI (zs + 1))), (6, .int (nI 0)), (4, .int ((f 5) * (f 0 + vm))), (3, .int (f 5)), (0, .ref (x 0)), (1, .ref y), (2, .ref ye)]) hC dX4_drawIdealReturn_76 hl rfl (by decide) rfl (fun ls hl => ?_)
          refine lv_goto (tgt := 26) hx hb dX4_drawIdealReturn_79 (by decide) ?_
          exact ih_3 (zs + 1) (upd F9 zs (f 5)) _ _ hP_6 hD_7 hS_8 (by first | omega | assumption | rfl) (by have e9 := s_fl_succ h 0 (k_di f vm) zs; rw [Nat.zero_add, ← hF] at e9; rw [← e9]; first | (rw [show k_di f vm zs = _ from if_pos (Int32.not_le.mp zc39)]; done) | (rw [show k_di f vm zs = f 5 from if_neg (Int32.not_lt.mpr zc39)]; done)) (by omega) ls (lv_sub hl [0, 2, 3, 4, 5, 6] rfl)
        · refine lv_iconst (v := nI 1) hx hb dX4_drawIdealReturn_42 (by decide) ?_
          refine lv_goto (tgt := 47) hx hb dX4_drawIdealReturn_43 (by decide) ?_
          refine lv_istore (lv' := [(6, .int (nI 1)), (5, .int (nI zs)), (4, .int ((f 5) * (f 0 + vm))), (3, .int (f 5)), (0, .ref (x 0)), (1, .ref y), (2, .ref ye)]) hx hb dX4_drawIdealReturn_47 hl (by decide) rfl (fun ls hl => ?_)
          refine lv_aload_n hx hb dX4_drawIdealReturn_49 rfl (lvG hl rfl) ?_
          refine lv_iload hx hb dX4_drawIdealReturn_50 (lvG hl rfl) ?_
          refine lv_iload hx hb dX4_drawIdealReturn_52 (lvG hl rfl) ?_
          refine n_if_eq (tgt := 74) hC dX4_drawIdealReturn_54 (by decide) (by decide) (fun c => absurd c (by decide)) (fun _ => ?_)
          refine lv_iload hx hb dX4_drawIdealReturn_57 (lvG hl rfl) ?_
          refine lv_aload_n hx hb dX4_drawIdealReturn_59 rfl (lvG hl rfl) ?_
          refine va_get (D := g.1) (ci := 4) (v := .ref (a 0)) (C := RX4) (T := TX4) (N := 7) hx hb hts i_X4 hown hK.1 hX9.1 0 rfl rfl 0 (by decide) (hts _ w_175) (fun _ h9 => h9) rfl dX4_drawIdealReturn_60 ?_
          refine lv_iload hx hb dX4_drawIdealReturn_63 (lvG hl rfl) ?_
          refine k_callPI (k_goV (rest := [.int ((f 5) * (f 0 + vm)), .int (nI zs), .ref y]) hC hK (c_X3_volumeAt l g a f (nI zs)) L_X4_X3_volumeAt (⟨⟨Nat.le_of_ble_eq_true rfl, Nat.le_of_ble_eq_true rfl⟩, ⟨rfl, rfl⟩, ⟨Nat.le_of_ble_eq_true rfl, Nat.le_of_ble_eq_true rfl⟩⟩) (k_recv hK hX9.1 1 rfl rfl) ((hX9.1.sub [1] rfl)) rfl hl.1 rfl (Nat.le_of_ble_eq_true rfl) dX4_drawIdealReturn_65) ?_
          refine k_callPI (k_goS (rest := [.int (nI zs), .ref y]) hC hK (c_X4_quotient l g ((f 5) * (f 0 + vm)) (f 0 + (nI zs))) L_X4_X4_quotient (⟨⟨Nat.le_of_ble_eq_true rfl, Nat.le_of_ble_eq_true rfl⟩, ⟨rfl, rfl⟩, ⟨Nat.le_of_ble_eq_true rfl, Nat.le_of_ble_eq_true rfl⟩⟩) (trivial) rfl hl.1 rfl (Nat.le_of_ble_eq_true rfl) dX4_drawIdealReturn_68) ?_
          refine lv_goto (tgt := 75) hx hb dX4_drawIdealReturn_71 (by decide) ?_
          refine k_ast (k := zs) (v := q_i ((f 5) * (f 0 + vm)) (f 0 + (nI zs))) hC hK hM9 hD9 hS9 0 rfl (by omega) (by decide) dX4_drawIdealReturn_75 (fun H_10 locs_11 hP_12 hD_13 hS_14 => ?_)
          have hP_12 : va_P g.1 kCl [cI g y 21 (upd F9 zs (q_i ((f 5) * (f 0 + vm)) (f 0 + (nI zs))))] H_10 := hP_12
          have hD_13 : va_D (fun q => q = y) [cI g y 21 (upd F9 zs (q_i ((f 5) * (f 0 + vm)) (f 0 + (nI zs))))] := hD_13
          have hX_15 := hX.at hS_14
          refine n_iinc (lv' := [(5, .int (nI (zs + 1))), (6, .int (nI 1)), (4, .int ((f 5) * (f 0 + vm))), (3, .int (f 5)), (0, .ref (x 0)), (1, .ref y), (2, .ref ye)]) hC dX4_drawIdealReturn_76 hl rfl (by decide) rfl (fun ls hl => ?_)
          refine lv_goto (tgt := 26) hx hb dX4_drawIdealReturn_79 (by decide) ?_
          exact ih_3 (zs + 1) (upd F9 zs (q_i ((f 5) * (f 0 + vm)) (f 0 + (nI zs)))) _ _ hP_12 hD_13 hS_14 (by first | omega | assumption | rfl) (by have e9 := s_fl_succ h 0 (k_di f vm) zs; rw [Nat.zero_add, ← hF] at e9; rw [← e9]; first | (rw [show k_di f vm zs = _ from if_pos (Int32.not_le.mp zc39)]; done) | (rw [show k_di f vm zs = f 5 from if_neg (Int32.not_lt.mpr zc39)]; done)) (by omega) ls (lv_sub hl [0, 2, 3, 4, 5, 6] rfl)
  exact key_1 ((21 - 0) + 1) 0 h _ _ hM hD hS (by first | rfl | omega | assumption) ((s_fl_0 _ _ _).symm) (Nat.lt_succ_self _) ls (lv_sub hl [0, 1, 2, 3, 4, 5] rfl)
