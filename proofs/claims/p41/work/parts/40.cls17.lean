theorem begin_end {g : kG} {a : Nat → Nat} {v0 v1 v2 : Int32} {F G h h2 : Nat → Int32} {H : Heap} (hP : va_P g.1 kCl [cDv a v0 v1 v2, cI g (a 4) 21 F, cI g (a 5) 21 G] H) (hF : F = s_fl h 0 (fun _ => (-1 : Int32)) 21) (hG : G = s_fl h2 0 (fun _ => (-1 : Int32)) 21) : va_P g.1 kCl [cDv a v0 v1 v2, cI g (a 4) 21 (fun _ => (-1 : Int32)), cI g (a 5) 21 (fun _ => (-1 : Int32))] H := by
  have key : ∀ (h : Nat → Int32) (k : Nat), k < 21 → s_fl h 0 (fun _ => (-1 : Int32)) 21 k = (-1 : Int32) := fun h k hk => by
    have := s_fl_in h 0 (fun _ => (-1 : Int32)) 21 k hk
    rw [Nat.zero_add] at this
    exact this
  subst hF hG
  intro k q hq
  match k, hq with
  | 0, hq => cases hq; exact hP 0 _ rfl
  | 1, hq => cases hq; exact cI_eq (key h) (hP 1 _ rfl)
  | 2, hq => cases hq; exact cI_eq (key h2) (hP 2 _ rfl)
  | k + 3, hq => simp at hq
set_option maxHeartbeats 4000000 in
set_option maxRecDepth 100000 in
theorem c_X1_begin (l : Launch) (g : kG) (a : Nat → Nat) (v0 : Int32) (v1 : Int32) (v2 : Int32) (h : Nat → Int32) (h2 : Nat → Int32) (hDa : va_D (fun _ => True) [cDv a v0 v1 v2, cI g (a 4) 21 h, cI g (a 5) 21 h2]) (en : Int32) (sp : Int32) : MV l yX1_begin cX1_begin 4 none (rr 0 0) [.ref (a 3), .int (en), .int (sp)] ((fun H => va_P g.1 kCl [cDv a v0 v1 v2, cI g (a 4) 21 h, cI g (a 5) 21 h2] H)) g 0 0 (aof [cDv a v0 v1 v2, cI g (a 4) 21 h, cI g (a 5) 21 h2]) (fun H1 => va_P g.1 kCl [cDv a (nI 1) en sp, cI g (a 4) 21 (fun _ => (-1 : Int32)), cI g (a 5) 21 (fun _ => (-1 : Int32))] H1) := by
  refine kOf (by decide) (Nat.le_of_ble_eq_true rfl) (fun p e s m below meth c ls hC hr hlk hin hK hP hl => ?_)
  have hx := hC.1
  have hb := hC.2.1
  have hml := hC.2.2.1
  have hown := hC.2.2.2.1
  have hts := hC.2.2.2.2
  have hl : lv_has ls 4 [(0, .ref (a 3)), (1, .int (en)), (2, .int (sp))] := hl
  have hM := hP
  have hD : va_D (aof [cDv a v0 v1 v2, cI g (a 4) 21 h, cI g (a 5) 21 h2]) [cDv a v0 v1 v2, cI g (a 4) 21 h, cI g (a 5) 21 h2] := va_D.weaken hDa (fun k q h _ => aof_at k h)
  have hS : va_S (aof [cDv a v0 v1 v2, cI g (a 4) 21 h, cI g (a 5) 21 h2]) s.heap s.heap [] := va_S.rf
  refine lv_aload_n hx hb dX1_begin_0 rfl (lvG hl rfl) ?_
  refine lv_iconst (v := nI 1) hx hb dX1_begin_1 (by decide) ?_
  refine k_putO (ci := 1) (v := .int (nI 1)) (ty := .boolean) (C := RX1) (T := TX1) (N := 5) hC hK i_X1 tyX1 tyX1_ok nmX1 hM hD hS 0 rfl rfl 0 (by decide) w_99 (fun _ h9 => h9) rfl (by decide +kernel) (by first | exact k_nar0 | exact k_nar1) (by decide +kernel) (Nat.le_of_ble_eq_true rfl) dX1_begin_2 (fun H_1 locs_2 hP_3 hD_4 hS_5 hz_6 hk_7 => ?_)
  have hP_3 : va_P g.1 kCl [(a 3, .inr (1, [.int (nI 1), .int (v1), .int (v2), .ref (a 4), .ref (a 5)])), cI g (a 4) 21 h, cI g (a 5) 21 h2] H_1 := hP_3
  have hD_4 : va_D (aof [cDv a v0 v1 v2, cI g (a 4) 21 h, cI g (a 5) 21 h2]) [(a 3, .inr (1, [.int (nI 1), .int (v1), .int (v2), .ref (a 4), .ref (a 5)])), cI g (a 4) 21 h, cI g (a 5) 21 h2] := hD_4
  refine lv_aload_n hx hb dX1_begin_5 rfl (lvG hl rfl) ?_
  refine lv_iload_n hx hb dX1_begin_6 rfl (lvG hl rfl) ?_
  refine k_putO (ci := 1) (v := .int (en)) (ty := .int) (C := RX1) (T := TX1) (N := 5) hC hK i_X1 tyX1 tyX1_ok nmX1 hP_3 hD_4 hS_5 0 rfl rfl 1 (by decide) w_101 (fun _ h9 => h9) rfl (by decide +kernel) rfl rfl (Nat.le_of_ble_eq_true rfl) dX1_begin_7 (fun H_8 locs_9 hP_10 hD_11 hS_12 hz_13 hk_14 => ?_)
  have hP_10 : va_P g.1 kCl [(a 3, .inr (1, [.int (nI 1), .int (en), .int (v2), .ref (a 4), .ref (a 5)])), cI g (a 4) 21 h, cI g (a 5) 21 h2] H_8 := hP_10
  have hD_11 : va_D (aof [cDv a v0 v1 v2, cI g (a 4) 21 h, cI g (a 5) 21 h2]) [(a 3, .inr (1, [.int (nI 1), .int (en), .int (v2), .ref (a 4), .ref (a 5)])), cI g (a 4) 21 h, cI g (a 5) 21 h2] := hD_11
  refine lv_aload_n hx hb dX1_begin_10 rfl (lvG hl rfl) ?_
  refine lv_iload_n hx hb dX1_begin_11 rfl (lvG hl rfl) ?_
  refine k_putO (ci := 1) (v := .int (sp)) (ty := .int) (C := RX1) (T := TX1) (N := 5) hC hK i_X1 tyX1 tyX1_ok nmX1 hP_10 hD_11 hS_12 0 rfl rfl 2 (by decide) w_103 (fun _ h9 => h9) rfl (by decide +kernel) rfl rfl (Nat.le_of_ble_eq_true rfl) dX1_begin_12 (fun H_15 locs_16 hP_17 hD_18 hS_19 hz_20 hk_21 => ?_)
  have hP_17 : va_P g.1 kCl [(a 3, .inr (1, [.int (nI 1), .int (en), .int (sp), .ref (a 4), .ref (a 5)])), cI g (a 4) 21 h, cI g (a 5) 21 h2] H_15 := hP_17
  have hD_18 : va_D (aof [cDv a v0 v1 v2, cI g (a 4) 21 h, cI g (a 5) 21 h2]) [(a 3, .inr (1, [.int (nI 1), .int (en), .int (sp), .ref (a 4), .ref (a 5)])), cI g (a 4) 21 h, cI g (a 5) 21 h2] := hD_18
  refine lv_iconst (v := nI 0) hx hb dX1_begin_15 (by decide) ?_
  refine lv_istore_n (lv' := [(3, .int (nI 0)), (0, .ref (a 3)), (1, .int (en)), (2, .int (sp))]) hx hb dX1_begin_16 rfl hl (by decide) rfl (fun ls hl => ?_)
  have key_22 : ∀ (k_23 : Nat) (zs : Nat) (F9 G9 : Nat → Int32) (H9 : Heap) (locs9 : List Loc) (hM9 : va_P g.1 kCl [(a 3, .inr (1, [.int (nI 1), .int (en), .int (sp), .ref (a 4), .ref (a 5)])), cI g (a 4) 21 F9, cI g (a 5) 21 G9] H9) (hD9 : va_D (aof [cDv a v0 v1 v2, cI g (a 4) 21 h, cI g (a 5) 21 h2]) [(a 3, .inr (1, [.int (nI 1), .int (en), .int (sp), .ref (a 4), .ref (a 5)])), cI g (a 4) 21 F9, cI g (a 5) 21 G9]) (hS9 : va_S (aof [cDv a v0 v1 v2, cI g (a 4) 21 h, cI g (a 5) 21 h2]) s.heap H9 locs9) (hz : zs ≤ 21) (hF : F9 = s_fl h 0 (fun _ => (-1 : Int32)) zs) (hG : G9 = s_fl h2 0 (fun _ => (-1 : Int32)) zs) (hk_k_23 : 21 - zs < k_23) (ls : Array Slot) (hl : lv_has ls 4 [(3, .int (nI zs)), (0, .ref (a 3)), (1, .int (en)), (2, .int (sp))]), W p l e (rr 0 0) s m [.ref (a 3), .int (en), .int (sp)].toArray below meth c H9 locs9 0 0 (MQ below (qV (aof [cDv a v0 v1 v2, cI g (a 4) 21 h, cI g (a 5) 21 h2]) (fun H1 => va_P g.1 kCl [cDv a (nI 1) en sp, cI g (a 4) 21 (fun _ => (-1 : Int32)), cI g (a 5) 21 (fun _ => (-1 : Int32))] H1)) [.ref (a 3), .int (en), .int (sp)].toArray s 0 0 (aof [cDv a v0 v1 v2, cI g (a 4) 21 h, cI g (a 5) 21 h2])) (F0 m 17 ls ([])) := by
    intro k_23
    induction k_23 with
    | zero => intro zs F9 G9 H9 locs9 hM9 hD9 hS9 hz hF hG hk_k_23 ls hl; exact absurd hk_k_23 (Nat.not_lt_zero _)
    | succ k_23 ih_24 =>
      intro zs F9 G9 H9 locs9 hM9 hD9 hS9 hz hF hG hk_k_23 ls hl
      refine lv_iload_n hx hb dX1_begin_17 rfl (lvG hl rfl) ?_
      refine lv_bipush (v := nI 21) hx hb dX1_begin_18 (by decide) ?_
      refine n_icmp_ge (tgt := 43) hC dX1_begin_20 (by omega) (by omega) (by decide) (fun zc20 => ?_) (fun zc20 => ?_)
      · exact k_vretM hC hr hlk hS9 dX1_begin_43 (begin_end hM9 (by rw [hF, show zs = 21 by omega]) (by rw [hG, show zs = 21 by omega]))
      · refine lv_aload_n hx hb dX1_begin_23 rfl (lvG hl rfl) ?_
        refine va_get (D := g.1) (ci := 1) (v := .ref (a 4)) (C := RX1) (T := TX1) (N := 5) hx hb hts i_X1 hown hK.1 hM9 0 rfl rfl 3 (by decide) (hts _ w_105) (fun _ h9 => h9) rfl dX1_begin_24 ?_
        refine lv_iload_n hx hb dX1_begin_27 rfl (lvG hl rfl) ?_
        refine lv_iconst (v := (-1 : Int32)) hx hb dX1_begin_28 (by decide) ?_
        refine k_ast (k := zs) (v := (-1 : Int32)) hC hK hM9 hD9 hS9 1 rfl (by omega) (by decide) dX1_begin_29 (fun H_25 locs_26 hP_27 hD_28 hS_29 => ?_)
        have hP_27 : va_P g.1 kCl [(a 3, .inr (1, [.int (nI 1), .int (en), .int (sp), .ref (a 4), .ref (a 5)])), cI g (a 4) 21 (upd F9 zs ((-1 : Int32))), cI g (a 5) 21 G9] H_25 := hP_27
        have hD_28 : va_D (aof [cDv a v0 v1 v2, cI g (a 4) 21 h, cI g (a 5) 21 h2]) [(a 3, .inr (1, [.int (nI 1), .int (en), .int (sp), .ref (a 4), .ref (a 5)])), cI g (a 4) 21 (upd F9 zs ((-1 : Int32))), cI g (a 5) 21 G9] := hD_28
        refine lv_aload_n hx hb dX1_begin_30 rfl (lvG hl rfl) ?_
        refine va_get (D := g.1) (ci := 1) (v := .ref (a 5)) (C := RX1) (T := TX1) (N := 5) hx hb hts i_X1 hown hK.1 hP_27 0 rfl rfl 4 (by decide) (hts _ w_107) (fun _ h9 => h9) rfl dX1_begin_31 ?_
        refine lv_iload_n hx hb dX1_begin_34 rfl (lvG hl rfl) ?_
        refine lv_iconst (v := (-1 : Int32)) hx hb dX1_begin_35 (by decide) ?_
        refine k_ast (k := zs) (v := (-1 : Int32)) hC hK hP_27 hD_28 hS_29 2 rfl (by omega) (by decide) dX1_begin_36 (fun H_30 locs_31 hP_32 hD_33 hS_34 => ?_)
        have hP_32 : va_P g.1 kCl [(a 3, .inr (1, [.int (nI 1), .int (en), .int (sp), .ref (a 4), .ref (a 5)])), cI g (a 4) 21 (upd F9 zs ((-1 : Int32))), cI g (a 5) 21 (upd G9 zs ((-1 : Int32)))] H_30 := hP_32
        have hD_33 : va_D (aof [cDv a v0 v1 v2, cI g (a 4) 21 h, cI g (a 5) 21 h2]) [(a 3, .inr (1, [.int (nI 1), .int (en), .int (sp), .ref (a 4), .ref (a 5)])), cI g (a 4) 21 (upd F9 zs ((-1 : Int32))), cI g (a 5) 21 (upd G9 zs ((-1 : Int32)))] := hD_33
        refine n_iinc (lv' := [(3, .int (nI (zs + 1))), (0, .ref (a 3)), (1, .int (en)), (2, .int (sp))]) hC dX1_begin_37 hl rfl (by decide) rfl (fun ls hl => ?_)
        refine lv_goto (tgt := 17) hx hb dX1_begin_40 (by decide) ?_
        exact ih_24 (zs + 1) (upd F9 zs ((-1 : Int32))) (upd G9 zs ((-1 : Int32))) _ _ hP_32 hD_33 hS_34 (by first | omega | assumption | rfl) (by rw [hF]; have e9 := s_fl_succ h 0 (fun _ => (-1 : Int32)) zs; rw [Nat.zero_add] at e9; exact e9) (by rw [hG]; have e9 := s_fl_succ h2 0 (fun _ => (-1 : Int32)) zs; rw [Nat.zero_add] at e9; exact e9) (by omega) ls (lv_sub hl [0, 1, 2, 3] rfl)
  exact key_22 ((21 - 0) + 1) 0 h h2 _ _ hP_17 hD_18 hS_19 (by first | rfl | omega | assumption) ((s_fl_0 _ _ _).symm) ((s_fl_0 _ _ _).symm) (Nat.lt_succ_self _) ls (lv_sub hl [0, 1, 2, 3] rfl)
set_option maxHeartbeats 4000000 in
set_option maxRecDepth 100000 in
theorem c_X1_copyFrom (l : Launch) (g : kG) (a : Nat → Nat) (ay : Nat → Nat) (v0 : Int32) (v1 : Int32) (v2 : Int32) (u0 : Int32) (u1 : Int32) (u2 : Int32) (h : Nat → Int32) (h2 : Nat → Int32) (k1 : Nat → Int32) (k2 : Nat → Int32) (hDa : va_D (fun _ => True) [cDv a v0 v1 v2, cI g (a 4) 21 h, cI g (a 5) 21 h2, cI g (ay 4) 21 k1, cI g (ay 5) 21 k2]) (hu : u0 = nI 0 ∨ u0 = nI 1) : MV l yX1_copyFrom cX1_copyFrom 2 none (rr 1 40) [.ref (a 3), .ref (ay 3)] ((fun H => va_P g.1 kCl [cDv a v0 v1 v2, cI g (a 4) 21 h, cI g (a 5) 21 h2, cI g (ay 4) 21 k1, cI g (ay 5) 21 k2] H ∧ XK g [cDv ay u0 u1 u2] (aof [cDv a v0 v1 v2, cI g (a 4) 21 h, cI g (a 5) 21 h2, cI g (ay 4) 21 k1, cI g (ay 5) 21 k2]) H)) g 0 0 (aof [cDv a v0 v1 v2, cI g (a 4) 21 h, cI g (a 5) 21 h2, cI g (ay 4) 21 k1, cI g (ay 5) 21 k2]) (fun H1 => va_P g.1 kCl [cDv a u0 u1 u2, cI g (a 4) 21 k1, cI g (a 5) 21 k2, cI g (ay 4) 21 k1, cI g (ay 5) 21 k2] H1) := by
  refine kOf (by decide) (Nat.le_of_ble_eq_true rfl) (fun p e s m below meth c ls hC hr hlk hin hK hP hl => ?_)
  have hx := hC.1
  have hb := hC.2.1
  have hml := hC.2.2.1
  have hown := hC.2.2.2.1
  have hts := hC.2.2.2.2
  have hl : lv_has ls 2 [(0, .ref (a 3)), (1, .ref (ay 3))] := hl
  obtain ⟨hM, hX⟩ := hP
  have hD : va_D (aof [cDv a v0 v1 v2, cI g (a 4) 21 h, cI g (a 5) 21 h2, cI g (ay 4) 21 k1, cI g (ay 5) 21 k2]) [cDv a v0 v1 v2, cI g (a 4) 21 h, cI g (a 5) 21 h2, cI g (ay 4) 21 k1, cI g (ay 5) 21 k2] := va_D.weaken hDa (fun k q h _ => aof_at k h)
  have hS : va_S (aof [cDv a v0 v1 v2, cI g (a 4) 21 h, cI g (a 5) 21 h2, cI g (ay 4) 21 k1, cI g (ay 5) 21 k2]) s.heap s.heap [] := va_S.rf
  refine lv_aload_n hx hb dX1_copyFrom_0 rfl (lvG hl rfl) ?_
  refine lv_aload_n hx hb dX1_copyFrom_1 rfl (lvG hl rfl) ?_
  refine va_get (D := g.1) (ci := 1) (v := .int (u0)) (C := RX1) (T := TX1) (N := 5) hx hb hts i_X1 hown hK.1 hX.1 0 rfl rfl 0 (by decide) (hts _ w_99) (fun _ h9 => h9) rfl dX1_copyFrom_2 ?_
  refine k_putO (ci := 1) (v := .int (u0)) (ty := .boolean) (C := RX1) (T := TX1) (N := 5) hC hK i_X1 tyX1 tyX1_ok nmX1 hM hD hS 0 rfl rfl 0 (by decide) w_99 (fun _ h9 => h9) rfl (by decide +kernel) (k_narv hu) (k_fitv hu) (Nat.le_of_ble_eq_true rfl) dX1_copyFrom_5 (fun H_1 locs_2 hP_3 hD_4 hS_5 hz_6 hk_7 => ?_)
  have hP_3 : va_P g.1 kCl [(a 3, .inr (1, [.int (u0), .int (v1), .int (v2), .ref (a 4), .ref (a 5)])), cI g (a 4) 21 h, cI g (a 5) 21 h2, cI g (ay 4) 21 k1, cI g (ay 5) 21 k2] H_1 := hP_3
  have hD_4 : va_D (aof [cDv a v0 v1 v2, cI g (a 4) 21 h, cI g (a 5) 21 h2, cI g (ay 4) 21 k1, cI g (ay 5) 21 k2]) [(a 3, .inr (1, [.int (u0), .int (v1), .int (v2), .ref (a 4), .ref (a 5)])), cI g (a 4) 21 h, cI g (a 5) 21 h2, cI g (ay 4) 21 k1, cI g (ay 5) 21 k2] := hD_4
  have hX_8 := hX.at hS_5
  refine lv_aload_n hx hb dX1_copyFrom_8 rfl (lvG hl rfl) ?_
  refine lv_aload_n hx hb dX1_copyFrom_9 rfl (lvG hl rfl) ?_
  refine va_get (D := g.1) (ci := 1) (v := .int (u1)) (C := RX1) (T := TX1) (N := 5) hx hb hts i_X1 hown hK.1 hX_8.1 0 rfl rfl 1 (by decide) (hts _ w_101) (fun _ h9 => h9) rfl dX1_copyFrom_10 ?_
  refine k_putO (ci := 1) (v := .int (u1)) (ty := .int) (C := RX1) (T := TX1) (N := 5) hC hK i_X1 tyX1 tyX1_ok nmX1 hP_3 hD_4 hS_5 0 rfl rfl 1 (by decide) w_101 (fun _ h9 => h9) rfl (by decide +kernel) rfl rfl (Nat.le_of_ble_eq_true rfl) dX1_copyFrom_13 (fun H_9 locs_10 hP_11 hD_12 hS_13 hz_14 hk_15 => ?_)
  have hP_11 : va_P g.1 kCl [(a 3, .inr (1, [.int (u0), .int (u1), .int (v2), .ref (a 4), .ref (a 5)])), cI g (a 4) 21 h, cI g (a 5) 21 h2, cI g (ay 4) 21 k1, cI g (ay 5) 21 k2] H_9 := hP_11
  have hD_12 : va_D (aof [cDv a v0 v1 v2, cI g (a 4) 21 h, cI g (a 5) 21 h2, cI g (ay 4) 21 k1, cI g (ay 5) 21 k2]) [(a 3, .inr (1, [.int (u0), .int (u1), .int (v2), .ref (a 4), .ref (a 5)])), cI g (a 4) 21 h, cI g (a 5) 21 h2, cI g (ay 4) 21 k1, cI g (ay 5) 21 k2] := hD_12
  have hX_16 := hX.at hS_13
  refine lv_aload_n hx hb dX1_copyFrom_16 rfl (lvG hl rfl) ?_
  refine lv_aload_n hx hb dX1_copyFrom_17 rfl (lvG hl rfl) ?_
  refine va_get (D := g.1) (ci := 1) (v := .int (u2)) (C := RX1) (T := TX1) (N := 5) hx hb hts i_X1 hown hK.1 hX_16.1 0 rfl rfl 2 (by decide) (hts _ w_103) (fun _ h9 => h9) rfl dX1_copyFrom_18 ?_
  refine k_putO (ci := 1) (v := .int (u2)) (ty := .int) (C := RX1) (T := TX1) (N := 5) hC hK i_X1 tyX1 tyX1_ok nmX1 hP_11 hD_12 hS_13 0 rfl rfl 2 (by decide) w_103 (fun _ h9 => h9) rfl (by decide +kernel) rfl rfl (Nat.le_of_ble_eq_true rfl) dX1_copyFrom_21 (fun H_17 locs_18 hP_19 hD_20 hS_21 hz_22 hk_23 => ?_)
  have hP_19 : va_P g.1 kCl [(a 3, .inr (1, [.int (u0), .int (u1), .int (u2), .ref (a 4), .ref (a 5)])), cI g (a 4) 21 h, cI g (a 5) 21 h2, cI g (ay 4) 21 k1, cI g (ay 5) 21 k2] H_17 := hP_19
  have hD_20 : va_D (aof [cDv a v0 v1 v2, cI g (a 4) 21 h, cI g (a 5) 21 h2, cI g (ay 4) 21 k1, cI g (ay 5) 21 k2]) [(a 3, .inr (1, [.int (u0), .int (u1), .int (u2), .ref (a 4), .ref (a 5)])), cI g (a 4) 21 h, cI g (a 5) 21 h2, cI g (ay 4) 21 k1, cI g (ay 5) 21 k2] := hD_20
  have hX_24 := hX.at hS_21
  refine lv_aload_n hx hb dX1_copyFrom_24 rfl (lvG hl rfl) ?_
  refine va_get (D := g.1) (ci := 1) (v := .ref (ay 4)) (C := RX1) (T := TX1) (N := 5) hx hb hts i_X1 hown hK.1 hX_24.1 0 rfl rfl 3 (by decide) (hts _ w_105) (fun _ h9 => h9) rfl dX1_copyFrom_25 ?_
  refine lv_iconst (v := nI 0) hx hb dX1_copyFrom_28 (by decide) ?_
  refine lv_aload_n hx hb dX1_copyFrom_29 rfl (lvG hl rfl) ?_
  refine va_get (D := g.1) (ci := 1) (v := .ref (a 4)) (C := RX1) (T := TX1) (N := 5) hx hb hts i_X1 hown hK.1 hP_19 0 rfl rfl 3 (by decide) (hts _ w_105) (fun _ h9 => h9) rfl dX1_copyFrom_30 ?_
  refine lv_iconst (v := nI 0) hx hb dX1_copyFrom_33 (by decide) ?_
  refine lv_bipush (v := nI 21) hx hb dX1_copyFrom_34 (by decide) ?_
  refine k_cpy hC hK hP_19 hD_20 hS_21 3 1 rfl rfl w_225 w_227 w_226 w_30 hl.1 (Nat.le_of_ble_eq_true rfl) (Nat.le_of_ble_eq_true rfl) (Nat.le_of_ble_eq_true rfl) dX1_copyFrom_36 (fun H_25 locs_26 hP_27 hD_28 hS_29 => ?_)
  have hP_27 : va_P g.1 kCl [(a 3, .inr (1, [.int (u0), .int (u1), .int (u2), .ref (a 4), .ref (a 5)])), cI g (a 4) 21 k1, cI g (a 5) 21 h2, cI g (ay 4) 21 k1, cI g (ay 5) 21 k2] H_25 := hP_27
  have hD_28 : va_D (aof [cDv a v0 v1 v2, cI g (a 4) 21 h, cI g (a 5) 21 h2, cI g (ay 4) 21 k1, cI g (ay 5) 21 k2]) [(a 3, .inr (1, [.int (u0), .int (u1), .int (u2), .ref (a 4), .ref (a 5)])), cI g (a 4) 21 k1, cI g (a 5) 21 h2, cI g (ay 4) 21 k1, cI g (ay 5) 21 k2] := hD_28
  have hX_30 := hX.at hS_29
  refine lv_aload_n hx hb dX1_copyFrom_39 rfl (lvG hl rfl) ?_
  refine va_get (D := g.1) (ci := 1) (v := .ref (ay 5)) (C := RX1) (T := TX1) (N := 5) hx hb hts i_X1 hown hK.1 hX_30.1 0 rfl rfl 4 (by decide) (hts _ w_107) (fun _ h9 => h9) rfl dX1_copyFrom_40 ?_
  refine lv_iconst (v := nI 0) hx hb dX1_copyFrom_43 (by decide) ?_
  refine lv_aload_n hx hb dX1_copyFrom_44 rfl (lvG hl rfl) ?_
  refine va_get (D := g.1) (ci := 1) (v := .ref (a 5)) (C := RX1) (T := TX1) (N := 5) hx hb hts i_X1 hown hK.1 hP_27 0 rfl rfl 4 (by decide) (hts _ w_107) (fun _ h9 => h9) rfl dX1_copyFrom_45 ?_
  refine lv_iconst (v := nI 0) hx hb dX1_copyFrom_48 (by decide) ?_
  refine lv_bipush (v := nI 21) hx hb dX1_copyFrom_49 (by decide) ?_
  refine k_cpy hC hK hP_27 hD_28 hS_29 4 2 rfl rfl w_225 w_227 w_226 w_30 hl.1 (Nat.le_of_ble_eq_true rfl) (Nat.le_of_ble_eq_true rfl) (Nat.le_of_ble_eq_true rfl) dX1_copyFrom_51 (fun H_31 locs_32 hP_33 hD_34 hS_35 => ?_)
  have hP_33 : va_P g.1 kCl [(a 3, .inr (1, [.int (u0), .int (u1), .int (u2), .ref (a 4), .ref (a 5)])), cI g (a 4) 21 k1, cI g (a 5) 21 k2, cI g (ay 4) 21 k1, cI g (ay 5) 21 k2] H_31 := hP_33
  have hD_34 : va_D (aof [cDv a v0 v1 v2, cI g (a 4) 21 h, cI g (a 5) 21 h2, cI g (ay 4) 21 k1, cI g (ay 5) 21 k2]) [(a 3, .inr (1, [.int (u0), .int (u1), .int (u2), .ref (a 4), .ref (a 5)])), cI g (a 4) 21 k1, cI g (a 5) 21 k2, cI g (ay 4) 21 k1, cI g (ay 5) 21 k2] := hD_34
  have hX_36 := hX.at hS_35
  exact k_vretM hC hr hlk hS_35 dX1_copyFrom_54 (hP_33)
