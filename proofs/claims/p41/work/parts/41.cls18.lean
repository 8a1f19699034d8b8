theorem one_id {y : Nat} {e : va_E} : ∀ q, q = y → ∃ (k : Nat) (p : Nat × va_E), ([(y, e)] : va_W)[k]? = some p ∧ p.1 = q := fun q c => ⟨0, _, rfl, c.symm⟩
theorem aof_at2 {ws : va_W} {q : Nat} {e : va_E} (k : Nat) (h : ws[k]? = some (q, e)) : aof ws q := ⟨k, _, h, rfl⟩
/-- the cards' references of a state: each is a card's that isn't written -/
def RK (g : kG) (A : Nat → Prop) (r : Nat → Option Nat) (H : Heap) : Prop := ∀ i, i < 10 → ∃ (q : Nat) (vs : List Value), r i = some q ∧ ¬ A q ∧ va_at g.1 kCl (q, .inr (0, vs)) H
def k_mx (r r0 : Nat → Option Nat) (z : Nat) : Nat → Option Nat := fun k => if k < z then r k else r0 k
theorem mx_0 (r r0 : Nat → Option Nat) : k_mx r r0 0 = r0 := by
  funext k
  exact if_neg (by omega)
theorem mx_s {r r0 : Nat → Option Nat} {z q : Nat} (h : r z = some q) : va_up (k_mx r r0 z) z (some q) = k_mx r r0 (z + 1) := by
  funext k
  unfold va_up k_mx
  by_cases e : k = z
  · subst e; rw [if_pos rfl, if_pos (by omega), h]
  · rw [if_neg e]
    by_cases e2 : k < z
    · rw [if_pos e2, if_pos (by omega)]
    · rw [if_neg e2, if_neg (by omega)]
abbrev wSy (g : kG) (ay : Nat → Nat) (d : Nat → Int32) : va_W := [cI g (ay 4) 21 d, cI g (ay 5) 21 (fun k => d (21 + k))]
abbrev wC9 (g : kG) (a ay : Nat → Nat) (F0 d0 : Nat → Int32) (r0 : Nat → Option Nat) (d : Nat → Int32) : va_W := wS g a F0 d0 r0 ++ wSy g ay d
abbrev wY5 (g : kG) (ay : Nat → Nat) (F : Nat → Int32) (r : Nat → Option Nat) : va_W := [cS ay F, cR g (ay 6) r, cE (ay 1) (F 8) (F 9) (F 10) (F 11), cE (ay 2) (F 12) (F 13) (F 14) (F 15), cD ay F]
theorem cf_end {g : kG} {a ay : Nat → Nat} {F d : Nat → Int32} {r r0 R9 : Nat → Option Nat} {H : Heap} (h : va_P g.1 kCl (wC9 g a ay F d R9 d) H) (hR : R9 = k_mx r r0 10) : va_P g.1 kCl (wC9 g a ay F d r d) H := by
  subst hR
  intro k q hq
  match k, hq with
  | 0, hq => cases hq; exact h 0 _ rfl
  | 1, hq => cases hq; exact cR_eq (fun k hk => if_pos hk) (h 1 _ rfl)
  | 2, hq => cases hq; exact h 2 _ rfl
  | 3, hq => cases hq; exact h 3 _ rfl
  | 4, hq => cases hq; exact h 4 _ rfl
  | 5, hq => cases hq; exact h 5 _ rfl
  | 6, hq => cases hq; exact h 6 _ rfl
  | 7, hq => cases hq; exact h 7 _ rfl
  | 8, hq => cases hq; exact h 8 _ rfl
  | k + 9, hq => simp at hq
theorem L_X3_X2_copyShifted : LnkV RX3 62 yX2_copyShifted cX2_copyShifted 3 none 2 := ⟨w_217, w_218, w_219, w_27, w_220, ⟨by decide +kernel, by decide +kernel⟩, by decide +kernel⟩
theorem L_X3_X1_copyFrom : LnkV RX3 66 yX1_copyFrom cX1_copyFrom 2 none 1 := ⟨w_221, w_222, w_223, w_29, w_224, ⟨by decide +kernel, by decide +kernel⟩, by decide +kernel⟩
set_option maxHeartbeats 4000000 in
set_option maxRecDepth 100000 in
theorem c_X3_copyFrom (l : Launch) (g : kG) (a : Nat → Nat) (ay : Nat → Nat) (Fa : Nat → Int32) (d0 : Nat → Int32) (r0 : Nat → Option Nat) (F : Nat → Int32) (d : Nat → Int32) (r : Nat → Option Nat) (hDa : va_D (fun _ => True) (wC9 g a ay Fa d0 r0 d)) (hu : F 16 = nI 0 ∨ F 16 = nI 1) : MV l yX3_copyFrom cX3_copyFrom 3 none (rr 2 61) [.ref (a 0), .ref (ay 0)] ((fun H => va_P g.1 kCl (wC9 g a ay Fa d0 r0 d) H ∧ XK g (wY5 g ay F r) (aof (wC9 g a ay Fa d0 r0 d)) H ∧ RK g (aof (wC9 g a ay Fa d0 r0 d)) r H)) g 0 0 (aof (wC9 g a ay Fa d0 r0 d)) (fun H1 => va_P g.1 kCl (wC9 g a ay F d r d) H1) := by
  refine kOf (by decide) (Nat.le_of_ble_eq_true rfl) (fun p e s m below meth c ls hC hr hlk hin hK hP hl => ?_)
  have hx := hC.1
  have hb := hC.2.1
  have hml := hC.2.2.1
  have hown := hC.2.2.2.1
  have hts := hC.2.2.2.2
  have hl : lv_has ls 3 [(0, .ref (a 0)), (1, .ref (ay 0))] := hl
  obtain ⟨hM, hX, hRK⟩ := hP
  have hD : va_D (aof (wC9 g a ay Fa d0 r0 d)) (wC9 g a ay Fa d0 r0 d) := va_D.weaken hDa (fun k q h _ => aof_at k h)
  have hS : va_S (aof (wC9 g a ay Fa d0 r0 d)) s.heap s.heap [] := va_S.rf
  refine lv_aload_n hx hb dX3_copyFrom_0 rfl (lvG hl rfl) ?_
  refine lv_aload_n hx hb dX3_copyFrom_1 rfl (lvG hl rfl) ?_
  refine va_get (D := g.1) (ci := 3) (v := .int (F 0)) (C := RX3) (T := TX3) (N := 13) hx hb hts i_X3 hown hK.1 hX.1 0 rfl rfl 0 (by decide) (hts _ w_122) (fun _ h9 => h9) rfl dX3_copyFrom_2 ?_
  refine k_putO (ci := 3) (v := .int (F 0)) (ty := .int) (C := RX3) (T := TX3) (N := 13) hC hK i_X3 tyX3 tyX3_ok nmX3 hM hD hS 0 rfl rfl 0 (by decide) w_122 (fun _ h9 => h9) rfl (by decide +kernel) rfl rfl (Nat.le_of_ble_eq_true rfl) dX3_copyFrom_5 (fun H_1 locs_2 hP_3 hD_4 hS_5 hz_6 hk_7 => ?_)
  have hP_3 : va_P g.1 kCl [(a 0, .inr (3, [.int (F 0), .int (Fa 1), .int (Fa 2), .int (Fa 3), .int (Fa 4), .int (Fa 5), .int (Fa 6), .int (Fa 7), .ref (a 1), .ref (a 2), .ref (a 3), .ref (a 6), .int (Fa 61)])), (a 6, .inl (g.2.2.1, 10, .inr (.inr (.inr (.inr r0))))), (a 1, .inr (2, [.int (Fa 8), .int (Fa 9), .int (Fa 10), .int (Fa 11)])), (a 2, .inr (2, [.int (Fa 12), .int (Fa 13), .int (Fa 14), .int (Fa 15)])), (a 3, .inr (1, [.int (Fa 16), .int (Fa 17), .int (Fa 18), .ref (a 4), .ref (a 5)])), cI g (a 4) 21 d0, cI g (a 5) 21 ((fun k => d0 (21 + k))), cI g (ay 4) 21 d, cI g (ay 5) 21 ((fun k => d (21 + k)))] H_1 := hP_3
  have hD_4 : va_D (aof (wC9 g a ay Fa d0 r0 d)) [(a 0, .inr (3, [.int (F 0), .int (Fa 1), .int (Fa 2), .int (Fa 3), .int (Fa 4), .int (Fa 5), .int (Fa 6), .int (Fa 7), .ref (a 1), .ref (a 2), .ref (a 3), .ref (a 6), .int (Fa 61)])), (a 6, .inl (g.2.2.1, 10, .inr (.inr (.inr (.inr r0))))), (a 1, .inr (2, [.int (Fa 8), .int (Fa 9), .int (Fa 10), .int (Fa 11)])), (a 2, .inr (2, [.int (Fa 12), .int (Fa 13), .int (Fa 14), .int (Fa 15)])), (a 3, .inr (1, [.int (Fa 16), .int (Fa 17), .int (Fa 18), .ref (a 4), .ref (a 5)])), cI g (a 4) 21 d0, cI g (a 5) 21 ((fun k => d0 (21 + k))), cI g (ay 4) 21 d, cI g (ay 5) 21 ((fun k => d (21 + k)))] := hD_4
  have hX_8 := hX.at hS_5
  refine lv_aload_n hx hb dX3_copyFrom_8 rfl (lvG hl rfl) ?_
  refine lv_aload_n hx hb dX3_copyFrom_9 rfl (lvG hl rfl) ?_
  refine va_get (D := g.1) (ci := 3) (v := .int (F 1)) (C := RX3) (T := TX3) (N := 13) hx hb hts i_X3 hown hK.1 hX_8.1 0 rfl rfl 1 (by decide) (hts _ w_124) (fun _ h9 => h9) rfl dX3_copyFrom_10 ?_
  refine k_putO (ci := 3) (v := .int (F 1)) (ty := .int) (C := RX3) (T := TX3) (N := 13) hC hK i_X3 tyX3 tyX3_ok nmX3 hP_3 hD_4 hS_5 0 rfl rfl 1 (by decide) w_124 (fun _ h9 => h9) rfl (by decide +kernel) rfl rfl (Nat.le_of_ble_eq_true rfl) dX3_copyFrom_13 (fun H_9 locs_10 hP_11 hD_12 hS_13 hz_14 hk_15 => ?_)
  have hP_11 : va_P g.1 kCl [(a 0, .inr (3, [.int (F 0), .int (F 1), .int (Fa 2), .int (Fa 3), .int (Fa 4), .int (Fa 5), .int (Fa 6), .int (Fa 7), .ref (a 1), .ref (a 2), .ref (a 3), .ref (a 6), .int (Fa 61)])), (a 6, .inl (g.2.2.1, 10, .inr (.inr (.inr (.inr r0))))), (a 1, .inr (2, [.int (Fa 8), .int (Fa 9), .int (Fa 10), .int (Fa 11)])), (a 2, .inr (2, [.int (Fa 12), .int (Fa 13), .int (Fa 14), .int (Fa 15)])), (a 3, .inr (1, [.int (Fa 16), .int (Fa 17), .int (Fa 18), .ref (a 4), .ref (a 5)])), cI g (a 4) 21 d0, cI g (a 5) 21 ((fun k => d0 (21 + k))), cI g (ay 4) 21 d, cI g (ay 5) 21 ((fun k => d (21 + k)))] H_9 := hP_11
  have hD_12 : va_D (aof (wC9 g a ay Fa d0 r0 d)) [(a 0, .inr (3, [.int (F 0), .int (F 1), .int (Fa 2), .int (Fa 3), .int (Fa 4), .int (Fa 5), .int (Fa 6), .int (Fa 7), .ref (a 1), .ref (a 2), .ref (a 3), .ref (a 6), .int (Fa 61)])), (a 6, .inl (g.2.2.1, 10, .inr (.inr (.inr (.inr r0))))), (a 1, .inr (2, [.int (Fa 8), .int (Fa 9), .int (Fa 10), .int (Fa 11)])), (a 2, .inr (2, [.int (Fa 12), .int (Fa 13), .int (Fa 14), .int (Fa 15)])), (a 3, .inr (1, [.int (Fa 16), .int (Fa 17), .int (Fa 18), .ref (a 4), .ref (a 5)])), cI g (a 4) 21 d0, cI g (a 5) 21 ((fun k => d0 (21 + k))), cI g (ay 4) 21 d, cI g (ay 5) 21 ((fun k => d (21 + k)))] := hD_12
  have hX_16 := hX.at hS_13
  refine lv_aload_n hx hb dX3_copyFrom_16 rfl (lvG hl rfl) ?_
  refine lv_aload_n hx hb dX3_copyFrom_17 rfl (lvG hl rfl) ?_
  refine va_get (D := g.1) (ci := 3) (v := .int (F 2)) (C := RX3) (T := TX3) (N := 13) hx hb hts i_X3 hown hK.1 hX_16.1 0 rfl rfl 2 (by decide) (hts _ w_126) (fun _ h9 => h9) rfl dX3_copyFrom_18 ?_
  refine k_putO (ci := 3) (v := .int (F 2)) (ty := .int) (C := RX3) (T := TX3) (N := 13) hC hK i_X3 tyX3 tyX3_ok nmX3 hP_11 hD_12 hS_13 0 rfl rfl 2 (by decide) w_126 (fun _ h9 => h9) rfl (by decide +kernel) rfl rfl (Nat.le_of_ble_eq_true rfl) dX3_copyFrom_21 (fun H_17 locs_18 hP_19 hD_20 hS_21 hz_22 hk_23 => ?_)
  have hP_19 : va_P g.1 kCl [(a 0, .inr (3, [.int (F 0), .int (F 1), .int (F 2), .int (Fa 3), .int (Fa 4), .int (Fa 5), .int (Fa 6), .int (Fa 7), .ref (a 1), .ref (a 2), .ref (a 3), .ref (a 6), .int (Fa 61)])), (a 6, .inl (g.2.2.1, 10, .inr (.inr (.inr (.inr r0))))), (a 1, .inr (2, [.int (Fa 8), .int (Fa 9), .int (Fa 10), .int (Fa 11)])), (a 2, .inr (2, [.int (Fa 12), .int (Fa 13), .int (Fa 14), .int (Fa 15)])), (a 3, .inr (1, [.int (Fa 16), .int (Fa 17), .int (Fa 18), .ref (a 4), .ref (a 5)])), cI g (a 4) 21 d0, cI g (a 5) 21 ((fun k => d0 (21 + k))), cI g (ay 4) 21 d, cI g (ay 5) 21 ((fun k => d (21 + k)))] H_17 := hP_19
  have hD_20 : va_D (aof (wC9 g a ay Fa d0 r0 d)) [(a 0, .inr (3, [.int (F 0), .int (F 1), .int (F 2), .int (Fa 3), .int (Fa 4), .int (Fa 5), .int (Fa 6), .int (Fa 7), .ref (a 1), .ref (a 2), .ref (a 3), .ref (a 6), .int (Fa 61)])), (a 6, .inl (g.2.2.1, 10, .inr (.inr (.inr (.inr r0))))), (a 1, .inr (2, [.int (Fa 8), .int (Fa 9), .int (Fa 10), .int (Fa 11)])), (a 2, .inr (2, [.int (Fa 12), .int (Fa 13), .int (Fa 14), .int (Fa 15)])), (a 3, .inr (1, [.int (Fa 16), .int (Fa 17), .int (Fa 18), .ref (a 4), .ref (a 5)])), cI g (a 4) 21 d0, cI g (a 5) 21 ((fun k => d0 (21 + k))), cI g (ay 4) 21 d, cI g (ay 5) 21 ((fun k => d (21 + k)))] := hD_20
  have hX_24 := hX.at hS_21
  refine lv_aload_n hx hb dX3_copyFrom_24 rfl (lvG hl rfl) ?_
  refine lv_aload_n hx hb dX3_copyFrom_25 rfl (lvG hl rfl) ?_
  refine va_get (D := g.1) (ci := 3) (v := .int (F 3)) (C := RX3) (T := TX3) (N := 13) hx hb hts i_X3 hown hK.1 hX_24.1 0 rfl rfl 3 (by decide) (hts _ w_128) (fun _ h9 => h9) rfl dX3_copyFrom_26 ?_
  refine k_putO (ci := 3) (v := .int (F 3)) (ty := .int) (C := RX3) (T := TX3) (N := 13) hC hK i_X3 tyX3 tyX3_ok nmX3 hP_19 hD_20 hS_21 0 rfl rfl 3 (by decide) w_128 (fun _ h9 => h9) rfl (by decide +kernel) rfl rfl (Nat.le_of_ble_eq_true rfl) dX3_copyFrom_29 (fun H_25 locs_26 hP_27 hD_28 hS_29 hz_30 hk_31 => ?_)
  have hP_27 : va_P g.1 kCl [(a 0, .inr (3, [.int (F 0), .int (F 1), .int (F 2), .int (F 3), .int (Fa 4), .int (Fa 5), .int (Fa 6), .int (Fa 7), .ref (a 1), .ref (a 2), .ref (a 3), .ref (a 6), .int (Fa 61)])), (a 6, .inl (g.2.2.1, 10, .inr (.inr (.inr (.inr r0))))), (a 1, .inr (2, [.int (Fa 8), .int (Fa 9), .int (Fa 10), .int (Fa 11)])), (a 2, .inr (2, [.int (Fa 12), .int (Fa 13), .int (Fa 14), .int (Fa 15)])), (a 3, .inr (1, [.int (Fa 16), .int (Fa 17), .int (Fa 18), .ref (a 4), .ref (a 5)])), cI g (a 4) 21 d0, cI g (a 5) 21 ((fun k => d0 (21 + k))), cI g (ay 4) 21 d, cI g (ay 5) 21 ((fun k => d (21 + k)))] H_25 := hP_27
  have hD_28 : va_D (aof (wC9 g a ay Fa d0 r0 d)) [(a 0, .inr (3, [.int (F 0), .int (F 1), .int (F 2), .int (F 3), .int (Fa 4), .int (Fa 5), .int (Fa 6), .int (Fa 7), .ref (a 1), .ref (a 2), .ref (a 3), .ref (a 6), .int (Fa 61)])), (a 6, .inl (g.2.2.1, 10, .inr (.inr (.inr (.inr r0))))), (a 1, .inr (2, [.int (Fa 8), .int (Fa 9), .int (Fa 10), .int (Fa 11)])), (a 2, .inr (2, [.int (Fa 12), .int (Fa 13), .int (Fa 14), .int (Fa 15)])), (a 3, .inr (1, [.int (Fa 16), .int (Fa 17), .int (Fa 18), .ref (a 4), .ref (a 5)])), cI g (a 4) 21 d0, cI g (a 5) 21 ((fun k => d0 (21 + k))), cI g (ay 4) 21 d, cI g (ay 5) 21 ((fun k => d (21 + k)))] := hD_28
  have hX_32 := hX.at hS_29
  refine lv_aload_n hx hb dX3_copyFrom_32 rfl (lvG hl rfl) ?_
  refine lv_aload_n hx hb dX3_copyFrom_33 rfl (lvG hl rfl) ?_
  refine va_get (D := g.1) (ci := 3) (v := .int (F 4)) (C := RX3) (T := TX3) (N := 13) hx hb hts i_X3 hown hK.1 hX_32.1 0 rfl rfl 4 (by decide) (hts _ w_130) (fun _ h9 => h9) rfl dX3_copyFrom_34 ?_
  refine k_putO (ci := 3) (v := .int (F 4)) (ty := .int) (C := RX3) (T := TX3) (N := 13) hC hK i_X3 tyX3 tyX3_ok nmX3 hP_27 hD_28 hS_29 0 rfl rfl 4 (by decide) w_130 (fun _ h9 => h9) rfl (by decide +kernel) rfl rfl (Nat.le_of_ble_eq_true rfl) dX3_copyFrom_37 (fun H_33 locs_34 hP_35 hD_36 hS_37 hz_38 hk_39 => ?_)
  have hP_35 : va_P g.1 kCl [(a 0, .inr (3, [.int (F 0), .int (F 1), .int (F 2), .int (F 3), .int (F 4), .int (Fa 5), .int (Fa 6), .int (Fa 7), .ref (a 1), .ref (a 2), .ref (a 3), .ref (a 6), .int (Fa 61)])), (a 6, .inl (g.2.2.1, 10, .inr (.inr (.inr (.inr r0))))), (a 1, .inr (2, [.int (Fa 8), .int (Fa 9), .int (Fa 10), .int (Fa 11)])), (a 2, .inr (2, [.int (Fa 12), .int (Fa 13), .int (Fa 14), .int (Fa 15)])), (a 3, .inr (1, [.int (Fa 16), .int (Fa 17), .int (Fa 18), .ref (a 4), .ref (a 5)])), cI g (a 4) 21 d0, cI g (a 5) 21 ((fun k => d0 (21 + k))), cI g (ay 4) 21 d, cI g (ay 5) 21 ((fun k => d (21 + k)))] H_33 := hP_35
  have hD_36 : va_D (aof (wC9 g a ay Fa d0 r0 d)) [(a 0, .inr (3, [.int (F 0), .int (F 1), .int (F 2), .int (F 3), .int (F 4), .int (Fa 5), .int (Fa 6), .int (Fa 7), .ref (a 1), .ref (a 2), .ref (a 3), .ref (a 6), .int (Fa 61)])), (a 6, .inl (g.2.2.1, 10, .inr (.inr (.inr (.inr r0))))), (a 1, .inr (2, [.int (Fa 8), .int (Fa 9), .int (Fa 10), .int (Fa 11)])), (a 2, .inr (2, [.int (Fa 12), .int (Fa 13), .int (Fa 14), .int (Fa 15)])), (a 3, .inr (1, [.int (Fa 16), .int (Fa 17), .int (Fa 18), .ref (a 4), .ref (a 5)])), cI g (a 4) 21 d0, cI g (a 5) 21 ((fun k => d0 (21 + k))), cI g (ay 4) 21 d, cI g (ay 5) 21 ((fun k => d (21 + k)))] := hD_36
  have hX_40 := hX.at hS_37
  refine lv_aload_n hx hb dX3_copyFrom_40 rfl (lvG hl rfl) ?_
  refine lv_aload_n hx hb dX3_copyFrom_41 rfl (lvG hl rfl) ?_
  refine va_get (D := g.1) (ci := 3) (v := .int (F 5)) (C := RX3) (T := TX3) (N := 13) hx hb hts i_X3 hown hK.1 hX_40.1 0 rfl rfl 5 (by decide) (hts _ w_132) (fun _ h9 => h9) rfl dX3_copyFrom_42 ?_
  refine k_putO (ci := 3) (v := .int (F 5)) (ty := .int) (C := RX3) (T := TX3) (N := 13) hC hK i_X3 tyX3 tyX3_ok nmX3 hP_35 hD_36 hS_37 0 rfl rfl 5 (by decide) w_132 (fun _ h9 => h9) rfl (by decide +kernel) rfl rfl (Nat.le_of_ble_eq_true rfl) dX3_copyFrom_45 (fun H_41 locs_42 hP_43 hD_44 hS_45 hz_46 hk_47 => ?_)
  have hP_43 : va_P g.1 kCl [(a 0, .inr (3, [.int (F 0), .int (F 1), .int (F 2), .int (F 3), .int (F 4), .int (F 5), .int (Fa 6), .int (Fa 7), .ref (a 1), .ref (a 2), .ref (a 3), .ref (a 6), .int (Fa 61)])), (a 6, .inl (g.2.2.1, 10, .inr (.inr (.inr (.inr r0))))), (a 1, .inr (2, [.int (Fa 8), .int (Fa 9), .int (Fa 10), .int (Fa 11)])), (a 2, .inr (2, [.int (Fa 12), .int (Fa 13), .int (Fa 14), .int (Fa 15)])), (a 3, .inr (1, [.int (Fa 16), .int (Fa 17), .int (Fa 18), .ref (a 4), .ref (a 5)])), cI g (a 4) 21 d0, cI g (a 5) 21 ((fun k => d0 (21 + k))), cI g (ay 4) 21 d, cI g (ay 5) 21 ((fun k => d (21 + k)))] H_41 := hP_43
  have hD_44 : va_D (aof (wC9 g a ay Fa d0 r0 d)) [(a 0, .inr (3, [.int (F 0), .int (F 1), .int (F 2), .int (F 3), .int (F 4), .int (F 5), .int (Fa 6), .int (Fa 7), .ref (a 1), .ref (a 2), .ref (a 3), .ref (a 6), .int (Fa 61)])), (a 6, .inl (g.2.2.1, 10, .inr (.inr (.inr (.inr r0))))), (a 1, .inr (2, [.int (Fa 8), .int (Fa 9), .int (Fa 10), .int (Fa 11)])), (a 2, .inr (2, [.int (Fa 12), .int (Fa 13), .int (Fa 14), .int (Fa 15)])), (a 3, .inr (1, [.int (Fa 16), .int (Fa 17), .int (Fa 18), .ref (a 4), .ref (a 5)])), cI g (a 4) 21 d0, cI g (a 5) 21 ((fun k => d0 (21 + k))), cI g (ay 4) 21 d, cI g (ay 5) 21 ((fun k => d (21 + k)))] := hD_44
  have hX_48 := hX.at hS_45
  refine lv_aload_n hx hb dX3_copyFrom_48 rfl (lvG hl rfl) ?_
  refine lv_aload_n hx hb dX3_copyFrom_49 rfl (lvG hl rfl) ?_
  refine va_get (D := g.1) (ci := 3) (v := .int (F 6)) (C := RX3) (T := TX3) (N := 13) hx hb hts i_X3 hown hK.1 hX_48.1 0 rfl rfl 6 (by decide) (hts _ w_134) (fun _ h9 => h9) rfl dX3_copyFrom_50 ?_
  refine k_putO (ci := 3) (v := .int (F 6)) (ty := .int) (C := RX3) (T := TX3) (N := 13) hC hK i_X3 tyX3 tyX3_ok nmX3 hP_43 hD_44 hS_45 0 rfl rfl 6 (by decide) w_134 (fun _ h9 => h9) rfl (by decide +kernel) rfl rfl (Nat.le_of_ble_eq_true rfl) dX3_copyFrom_53 (fun H_49 locs_50 hP_51 hD_52 hS_53 hz_54 hk_55 => ?_)
  have hP_51 : va_P g.1 kCl [(a 0, .inr (3, [.int (F 0), .int (F 1), .int (F 2), .int (F 3), .int (F 4), .int (F 5), .int (F 6), .int (Fa 7), .ref (a 1), .ref (a 2), .ref (a 3), .ref (a 6), .int (Fa 61)])), (a 6, .inl (g.2.2.1, 10, .inr (.inr (.inr (.inr r0))))), (a 1, .inr (2, [.int (Fa 8), .int (Fa 9), .int (Fa 10), .int (Fa 11)])), (a 2, .inr (2, [.int (Fa 12), .int (Fa 13), .int (Fa 14), .int (Fa 15)])), (a 3, .inr (1, [.int (Fa 16), .int (Fa 17), .int (Fa 18), .ref (a 4), .ref (a 5)])), cI g (a 4) 21 d0, cI g (a 5) 21 ((fun k => d0 (21 + k))), cI g (ay 4) 21 d, cI g (ay 5) 21 ((fun k => d (21 + k)))] H_49 := hP_51
  have hD_52 : va_D (aof (wC9 g a ay Fa d0 r0 d)) [(a 0, .inr (3, [.int (F 0), .int (F 1), .int (F 2), .int (F 3), .int (F 4), .int (F 5), .int (F 6), .int (Fa 7), .ref (a 1), .ref (a 2), .ref (a 3), .ref (a 6), .int (Fa 61)])), (a 6, .inl (g.2.2.1, 10, .inr (.inr (.inr (.inr r0))))), (a 1, .inr (2, [.int (Fa 8), .int (Fa 9), .int (Fa 10), .int (Fa 11)])), (a 2, .inr (2, [.int (Fa 12), .int (Fa 13), .int (Fa 14), .int (Fa 15)])), (a 3, .inr (1, [.int (Fa 16), .int (Fa 17), .int (Fa 18), .ref (a 4), .ref (a 5)])), cI g (a 4) 21 d0, cI g (a 5) 21 ((fun k => d0 (21 + k))), cI g (ay 4) 21 d, cI g (ay 5) 21 ((fun k => d (21 + k)))] := hD_52
  have hX_56 := hX.at hS_53
  refine lv_aload_n hx hb dX3_copyFrom_56 rfl (lvG hl rfl) ?_
  refine lv_aload_n hx hb dX3_copyFrom_57 rfl (lvG hl rfl) ?_
  refine va_get (D := g.1) (ci := 3) (v := .int (F 7)) (C := RX3) (T := TX3) (N := 13) hx hb hts i_X3 hown hK.1 hX_56.1 0 rfl rfl 7 (by decide) (hts _ w_136) (fun _ h9 => h9) rfl dX3_copyFrom_58 ?_
  refine k_putO (ci := 3) (v := .int (F 7)) (ty := .int) (C := RX3) (T := TX3) (N := 13) hC hK i_X3 tyX3 tyX3_ok nmX3 hP_51 hD_52 hS_53 0 rfl rfl 7 (by decide) w_136 (fun _ h9 => h9) rfl (by decide +kernel) rfl rfl (Nat.le_of_ble_eq_true rfl) dX3_copyFrom_61 (fun H_57 locs_58 hP_59 hD_60 hS_61 hz_62 hk_63 => ?_)
  have hP_59 : va_P g.1 kCl [(a 0, .inr (3, [.int (F 0), .int (F 1), .int (F 2), .int (F 3), .int (F 4), .int (F 5), .int (F 6), .int (F 7), .ref (a 1), .ref (a 2), .ref (a 3), .ref (a 6), .int (Fa 61)])), (a 6, .inl (g.2.2.1, 10, .inr (.inr (.inr (.inr r0))))), (a 1, .inr (2, [.int (Fa 8), .int (Fa 9), .int (Fa 10), .int (Fa 11)])), (a 2, .inr (2, [.int (Fa 12), .int (Fa 13), .int (Fa 14), .int (Fa 15)])), (a 3, .inr (1, [.int (Fa 16), .int (Fa 17), .int (Fa 18), .ref (a 4), .ref (a 5)])), cI g (a 4) 21 d0, cI g (a 5) 21 ((fun k => d0 (21 + k))), cI g (ay 4) 21 d, cI g (ay 5) 21 ((fun k => d (21 + k)))] H_57 := hP_59
  have hD_60 : va_D (aof (wC9 g a ay Fa d0 r0 d)) [(a 0, .inr (3, [.int (F 0), .int (F 1), .int (F 2), .int (F 3), .int (F 4), .int (F 5), .int (F 6), .int (F 7), .ref (a 1), .ref (a 2), .ref (a 3), .ref (a 6), .int (Fa 61)])), (a 6, .inl (g.2.2.1, 10, .inr (.inr (.inr (.inr r0))))), (a 1, .inr (2, [.int (Fa 8), .int (Fa 9), .int (Fa 10), .int (Fa 11)])), (a 2, .inr (2, [.int (Fa 12), .int (Fa 13), .int (Fa 14), .int (Fa 15)])), (a 3, .inr (1, [.int (Fa 16), .int (Fa 17), .int (Fa 18), .ref (a 4), .ref (a 5)])), cI g (a 4) 21 d0, cI g (a 5) 21 ((fun k => d0 (21 + k))), cI g (ay 4) 21 d, cI g (ay 5) 21 ((fun k => d (21 + k)))] := hD_60
  have hX_64 := hX.at hS_61
  refine lv_aload_n hx hb dX3_copyFrom_64 rfl (lvG hl rfl) ?_
  refine va_get (D := g.1) (ci := 3) (v := .ref (a 1)) (C := RX3) (T := TX3) (N := 13) hx hb hts i_X3 hown hK.1 hP_59 0 rfl rfl 8 (by decide) (hts _ w_138) (fun _ h9 => h9) rfl dX3_copyFrom_65 ?_
  refine lv_aload_n hx hb dX3_copyFrom_68 rfl (lvG hl rfl) ?_
  refine va_get (D := g.1) (ci := 3) (v := .ref (ay 1)) (C := RX3) (T := TX3) (N := 13) hx hb hts i_X3 hown hK.1 hX_64.1 0 rfl rfl 8 (by decide) (hts _ w_138) (fun _ h9 => h9) rfl dX3_copyFrom_69 ?_
  refine lv_iconst (v := nI 0) hx hb dX3_copyFrom_72 (by decide) ?_
  refine k_callMV0 (k_goV (rest := []) hC hK (c_X2_copyShifted l g (a 1) (Fa 8) (Fa 9) (Fa 10) (Fa 11) (ay 1) (F 8) (F 9) (F 10) (F 11) (nI 0)) L_X3_X2_copyShifted (⟨⟨Nat.le_of_ble_eq_true rfl, Nat.le_of_ble_eq_true rfl⟩, ⟨rfl, rfl⟩, ⟨Nat.le_of_ble_eq_true rfl, Nat.le_of_ble_eq_true rfl⟩⟩) (k_recv hK hP_59 2 rfl rfl) (⟨(va_P.sub hP_59 [2] rfl), XK.sub hX_64 [2] rfl (fun q c => by have e : q = a 1 := c; subst e; exact aof_at2 2 rfl)⟩) rfl hl.1 rfl (Nat.le_of_ble_eq_true rfl) dX3_copyFrom_73) hS_61 (fun q c => by have e : q = a 1 := c; subst e; exact aof_at2 2 rfl) (fun H_65 locs_66 hQ_67 hz_ hk_69 hS_68 => ?_)
  rw [cE_0] at hQ_67
  have hM_70 : va_P g.1 kCl [(a 0, .inr (3, [.int (F 0), .int (F 1), .int (F 2), .int (F 3), .int (F 4), .int (F 5), .int (F 6), .int (F 7), .ref (a 1), .ref (a 2), .ref (a 3), .ref (a 6), .int (Fa 61)])), (a 6, .inl (g.2.2.1, 10, .inr (.inr (.inr (.inr r0))))), (a 1, .inr (2, [.int (F 8), .int (F 9), .int (F 10), .int (F 11)])), (a 2, .inr (2, [.int (Fa 12), .int (Fa 13), .int (Fa 14), .int (Fa 15)])), (a 3, .inr (1, [.int (Fa 16), .int (Fa 17), .int (Fa 18), .ref (a 4), .ref (a 5)])), cI g (a 4) 21 d0, cI g (a 5) 21 ((fun k => d0 (21 + k))), cI g (ay 4) 21 d, cI g (ay 5) 21 ((fun k => d (21 + k)))] H_65 := va_over hP_59 hD_60 [2] [(0, 0), (0, 1), (1, 0), (0, 3), (0, 4), (0, 5), (0, 6), (0, 7), (0, 8)] rfl (one_id) hk_69 hQ_67 rfl (by decide)
  have hD_71 : va_D (aof (wC9 g a ay Fa d0 r0 d)) [(a 0, .inr (3, [.int (F 0), .int (F 1), .int (F 2), .int (F 3), .int (F 4), .int (F 5), .int (F 6), .int (F 7), .ref (a 1), .ref (a 2), .ref (a 3), .ref (a 6), .int (Fa 61)])), (a 6, .inl (g.2.2.1, 10, .inr (.inr (.inr (.inr r0))))), (a 1, .inr (2, [.int (F 8), .int (F 9), .int (F 10), .int (F 11)])), (a 2, .inr (2, [.int (Fa 12), .int (Fa 13), .int (Fa 14), .int (Fa 15)])), (a 3, .inr (1, [.int (Fa 16), .int (Fa 17), .int (Fa 18), .ref (a 4), .ref (a 5)])), cI g (a 4) 21 d0, cI g (a 5) 21 ((fun k => d0 (21 + k))), cI g (ay 4) 21 d, cI g (ay 5) 21 ((fun k => d (21 + k)))] := va_Dre hD_60 rfl
  have hX_72 := hX.at hS_68
  refine lv_aload_n hx hb dX3_copyFrom_76 rfl (lvG hl rfl) ?_
  refine va_get (D := g.1) (ci := 3) (v := .ref (a 2)) (C := RX3) (T := TX3) (N := 13) hx hb hts i_X3 hown hK.1 hM_70 0 rfl rfl 9 (by decide) (hts _ w_140) (fun _ h9 => h9) rfl dX3_copyFrom_77 ?_
  refine lv_aload_n hx hb dX3_copyFrom_80 rfl (lvG hl rfl) ?_
  refine va_get (D := g.1) (ci := 3) (v := .ref (ay 2)) (C := RX3) (T := TX3) (N := 13) hx hb hts i_X3 hown hK.1 hX_72.1 0 rfl rfl 9 (by decide) (hts _ w_140) (fun _ h9 => h9) rfl dX3_copyFrom_81 ?_
  refine lv_iconst (v := nI 0) hx hb dX3_copyFrom_84 (by decide) ?_
  refine k_callMV0 (k_goV (rest := []) hC hK (c_X2_copyShifted l g (a 2) (Fa 12) (Fa 13) (Fa 14) (Fa 15) (ay 2) (F 12) (F 13) (F 14) (F 15) (nI 0)) L_X3_X2_copyShifted (⟨⟨Nat.le_of_ble_eq_true rfl, Nat.le_of_ble_eq_true rfl⟩, ⟨rfl, rfl⟩, ⟨Nat.le_of_ble_eq_true rfl, Nat.le_of_ble_eq_true rfl⟩⟩) (k_recv hK hM_70 3 rfl rfl) (⟨(va_P.sub hM_70 [3] rfl), XK.sub hX_72 [3] rfl (fun q c => by have e : q = a 2 := c; subst e; exact aof_at2 3 rfl)⟩) rfl hl.1 rfl (Nat.le_of_ble_eq_true rfl) dX3_copyFrom_85) hS_68 (fun q c => by have e : q = a 2 := c; subst e; exact aof_at2 3 rfl) (fun H_73 locs_74 hQ_75 hz_ hk_77 hS_76 => ?_)
  rw [cE_0] at hQ_75
  have hM_78 : va_P g.1 kCl [(a 0, .inr (3, [.int (F 0), .int (F 1), .int (F 2), .int (F 3), .int (F 4), .int (F 5), .int (F 6), .int (F 7), .ref (a 1), .ref (a 2), .ref (a 3), .ref (a 6), .int (Fa 61)])), (a 6, .inl (g.2.2.1, 10, .inr (.inr (.inr (.inr r0))))), (a 1, .inr (2, [.int (F 8), .int (F 9), .int (F 10), .int (F 11)])), (a 2, .inr (2, [.int (F 12), .int (F 13), .int (F 14), .int (F 15)])), (a 3, .inr (1, [.int (Fa 16), .int (Fa 17), .int (Fa 18), .ref (a 4), .ref (a 5)])), cI g (a 4) 21 d0, cI g (a 5) 21 ((fun k => d0 (21 + k))), cI g (ay 4) 21 d, cI g (ay 5) 21 ((fun k => d (21 + k)))] H_73 := va_over hM_70 hD_71 [3] [(0, 0), (0, 1), (0, 2), (1, 0), (0, 4), (0, 5), (0, 6), (0, 7), (0, 8)] rfl (one_id) hk_77 hQ_75 rfl (by decide)
  have hD_79 : va_D (aof (wC9 g a ay Fa d0 r0 d)) [(a 0, .inr (3, [.int (F 0), .int (F 1), .int (F 2), .int (F 3), .int (F 4), .int (F 5), .int (F 6), .int (F 7), .ref (a 1), .ref (a 2), .ref (a 3), .ref (a 6), .int (Fa 61)])), (a 6, .inl (g.2.2.1, 10, .inr (.inr (.inr (.inr r0))))), (a 1, .inr (2, [.int (F 8), .int (F 9), .int (F 10), .int (F 11)])), (a 2, .inr (2, [.int (F 12), .int (F 13), .int (F 14), .int (F 15)])), (a 3, .inr (1, [.int (Fa 16), .int (Fa 17), .int (Fa 18), .ref (a 4), .ref (a 5)])), cI g (a 4) 21 d0, cI g (a 5) 21 ((fun k => d0 (21 + k))), cI g (ay 4) 21 d, cI g (ay 5) 21 ((fun k => d (21 + k)))] := va_Dre hD_71 rfl
  have hX_80 := hX.at hS_76
  refine lv_aload_n hx hb dX3_copyFrom_88 rfl (lvG hl rfl) ?_
  refine va_get (D := g.1) (ci := 3) (v := .ref (a 3)) (C := RX3) (T := TX3) (N := 13) hx hb hts i_X3 hown hK.1 hM_78 0 rfl rfl 10 (by decide) (hts _ w_141) (fun _ h9 => h9) rfl dX3_copyFrom_89 ?_
  refine lv_aload_n hx hb dX3_copyFrom_92 rfl (lvG hl rfl) ?_
  refine va_get (D := g.1) (ci := 3) (v := .ref (ay 3)) (C := RX3) (T := TX3) (N := 13) hx hb hts i_X3 hown hK.1 hX_80.1 0 rfl rfl 10 (by decide) (hts _ w_141) (fun _ h9 => h9) rfl dX3_copyFrom_93 ?_
  refine k_callMV0 (k_goV (rest := []) hC hK (c_X1_copyFrom l g a ay (Fa 16) (Fa 17) (Fa 18) (F 16) (F 17) (F 18) d0 ((fun k => d0 (21 + k))) d ((fun k => d (21 + k))) ((va_D.sub hD_79 [4, 5, 6, 7, 8] (by decide) rfl).weaken (fun _ _ _ _ => trivial)) hu) L_X3_X1_copyFrom (⟨⟨Nat.le_of_ble_eq_true rfl, Nat.le_of_ble_eq_true rfl⟩, ⟨rfl, rfl⟩, ⟨Nat.le_of_ble_eq_true rfl, Nat.le_of_ble_eq_true rfl⟩⟩) (k_recv hK hM_78 4 rfl rfl) (⟨(va_P.sub hM_78 [4, 5, 6, 7, 8] rfl), XK.sub hX_80 [4] rfl (aof_in hD_79 [4, 5, 6, 7, 8] rfl)⟩) rfl hl.1 rfl (Nat.le_of_ble_eq_true rfl) dX3_copyFrom_96) hS_76 (aof_in hD_79 [4, 5, 6, 7, 8] rfl) (fun H_81 locs_82 hQ_83 hz_ hk_85 hS_84 => ?_)
  have hM_86 : va_P g.1 kCl [(a 0, .inr (3, [.int (F 0), .int (F 1), .int (F 2), .int (F 3), .int (F 4), .int (F 5), .int (F 6), .int (F 7), .ref (a 1), .ref (a 2), .ref (a 3), .ref (a 6), .int (Fa 61)])), (a 6, .inl (g.2.2.1, 10, .inr (.inr (.inr (.inr r0))))), (a 1, .inr (2, [.int (F 8), .int (F 9), .int (F 10), .int (F 11)])), (a 2, .inr (2, [.int (F 12), .int (F 13), .int (F 14), .int (F 15)])), (a 3, .inr (1, [.int (F 16), .int (F 17), .int (F 18), .ref (a 4), .ref (a 5)])), cI g (a 4) 21 d, cI g (a 5) 21 (((fun k => d (21 + k)))), cI g (ay 4) 21 d, cI g (ay 5) 21 (((fun k => d (21 + k))))] H_81 := va_over hM_78 hD_79 [4, 5, 6, 7, 8] [(0, 0), (0, 1), (0, 2), (0, 3), (1, 0), (1, 1), (1, 2), (1, 3), (1, 4)] rfl (aof_id) hk_85 hQ_83 rfl (by decide)
  have hD_87 : va_D (aof (wC9 g a ay Fa d0 r0 d)) [(a 0, .inr (3, [.int (F 0), .int (F 1), .int (F 2), .int (F 3), .int (F 4), .int (F 5), .int (F 6), .int (F 7), .ref (a 1), .ref (a 2), .ref (a 3), .ref (a 6), .int (Fa 61)])), (a 6, .inl (g.2.2.1, 10, .inr (.inr (.inr (.inr r0))))), (a 1, .inr (2, [.int (F 8), .int (F 9), .int (F 10), .int (F 11)])), (a 2, .inr (2, [.int (F 12), .int (F 13), .int (F 14), .int (F 15)])), (a 3, .inr (1, [.int (F 16), .int (F 17), .int (F 18), .ref (a 4), .ref (a 5)])), cI g (a 4) 21 d, cI g (a 5) 21 (((fun k => d (21 + k)))), cI g (ay 4) 21 d, cI g (ay 5) 21 (((fun k => d (21 + k))))] := va_Dre hD_79 rfl
  have hX_88 := hX.at hS_84
  refine lv_iconst (v := nI 0) hx hb dX3_copyFrom_99 (by decide) ?_
  refine lv_istore_n (lv' := [(2, .int (nI 0)), (0, .ref (a 0)), (1, .ref (ay 0))]) hx hb dX3_copyFrom_100 rfl hl (by decide) rfl (fun ls hl => ?_)
  have key_89 : ∀ (k_90 : Nat) (zi : Nat) (R9 : Nat → Option Nat) (H9 : Heap) (locs9 : List Loc) (hM9 : va_P g.1 kCl [(a 0, .inr (3, [.int (F 0), .int (F 1), .int (F 2), .int (F 3), .int (F 4), .int (F 5), .int (F 6), .int (F 7), .ref (a 1), .ref (a 2), .ref (a 3), .ref (a 6), .int (Fa 61)])), (a 6, .inl (g.2.2.1, 10, .inr (.inr (.inr (.inr R9))))), (a 1, .inr (2, [.int (F 8), .int (F 9), .int (F 10), .int (F 11)])), (a 2, .inr (2, [.int (F 12), .int (F 13), .int (F 14), .int (F 15)])), (a 3, .inr (1, [.int (F 16), .int (F 17), .int (F 18), .ref (a 4), .ref (a 5)])), cI g (a 4) 21 d, cI g (a 5) 21 (((fun k => d (21 + k)))), cI g (ay 4) 21 d, cI g (ay 5) 21 (((fun k => d (21 + k))))] H9) (hD9 : va_D (aof (wC9 g a ay Fa d0 r0 d)) [(a 0, .inr (3, [.int (F 0), .int (F 1), .int (F 2), .int (F 3), .int (F 4), .int (F 5), .int (F 6), .int (F 7), .ref (a 1), .ref (a 2), .ref (a 3), .ref (a 6), .int (Fa 61)])), (a 6, .inl (g.2.2.1, 10, .inr (.inr (.inr (.inr R9))))), (a 1, .inr (2, [.int (F 8), .int (F 9), .int (F 10), .int (F 11)])), (a 2, .inr (2, [.int (F 12), .int (F 13), .int (F 14), .int (F 15)])), (a 3, .inr (1, [.int (F 16), .int (F 17), .int (F 18), .ref (a 4), .ref (a 5)])), cI g (a 4) 21 d, cI g (a 5) 21 (((fun k => d (21 + k)))), cI g (ay 4) 21 d, cI g (ay 5) 21 (((fun k => d (21 + k))))]) (hS9 : va_S (aof (wC9 g a ay Fa d0 r0 d)) s.heap H9 locs9) (hz : zi ≤ 10) (hR : R9 = k_mx r r0 zi) (hk_k_90 : 10 - zi < k_90) (ls : Array Slot) (hl : lv_has ls 3 [(2, .int (nI zi)), (0, .ref (a 0)), (1, .ref (ay 0))]), W p l e (rr 2 61) s m [.ref (a 0), .ref (ay 0)].toArray below meth c H9 locs9 0 0 (MQ below (qV (aof (wC9 g a ay Fa d0 r0 d)) (fun H1 => va_P g.1 kCl (wC9 g a ay F d r d) H1)) [.ref (a 0), .ref (ay 0)].toArray s 0 0 (aof (wC9 g a ay Fa d0 r0 d))) (F0 m 101 ls ([])) := by
    intro k_90
    induction k_90 with
    | zero => intro zi R9 H9 locs9 hM9 hD9 hS9 hz hR hk_k_90 ls hl; exact absurd hk_k_90 (Nat.not_lt_zero _)
    | succ k_90 ih_91 =>
      intro zi R9 H9 locs9 hM9 hD9 hS9 hz hR hk_k_90 ls hl
      have hX9 := hX.at hS9
      refine lv_iload_n hx hb dX3_copyFrom_101 rfl (lvG hl rfl) ?_
      refine lv_bipush (v := nI 10) hx hb dX3_copyFrom_102 (by decide) ?_
      refine n_icmp_ge (tgt := 125) hC dX3_copyFrom_104 (by omega) (by omega) (by decide) (fun zc104 => ?_) (fun zc104 => ?_)
      · refine lv_aload_n hx hb dX3_copyFrom_125 rfl (lvG hl rfl) ?_
        refine lv_aload_n hx hb dX3_copyFrom_126 rfl (lvG hl rfl) ?_
        refine va_get (D := g.1) (ci := 3) (v := .int (F 61)) (C := RX3) (T := TX3) (N := 13) hx hb hts i_X3 hown hK.1 hX9.1 0 rfl rfl 12 (by decide) (hts _ w_145) (fun _ h9 => h9) rfl dX3_copyFrom_127 ?_
        refine k_putO (ci := 3) (v := .int (F 61)) (ty := .int) (C := RX3) (T := TX3) (N := 13) hC hK i_X3 tyX3 tyX3_ok nmX3 hM9 hD9 hS9 0 rfl rfl 12 (by decide) w_145 (fun _ h9 => h9) rfl (by decide +kernel) rfl rfl (Nat.le_of_ble_eq_true rfl) dX3_copyFrom_130 (fun H_92 locs_93 hP_94 hD_95 hS_96 hz_97 hk_98 => ?_)
        have hP_94 : va_P g.1 kCl [(a 0, .inr (3, [.int (F 0), .int (F 1), .int (F 2), .int (F 3), .int (F 4), .int (F 5), .int (F 6), .int (F 7), .ref (a 1), .ref (a 2), .ref (a 3), .ref (a 6), .int (F 61)])), (a 6, .inl (g.2.2.1, 10, .inr (.inr (.inr (.inr R9))))), (a 1, .inr (2, [.int (F 8), .int (F 9), .int (F 10), .int (F 11)])), (a 2, .inr (2, [.int (F 12), .int (F 13), .int (F 14), .int (F 15)])), (a 3, .inr (1, [.int (F 16), .int (F 17), .int (F 18), .ref (a 4), .ref (a 5)])), cI g (a 4) 21 d, cI g (a 5) 21 (((fun k => d (21 + k)))), cI g (ay 4) 21 d, cI g (ay 5) 21 (((fun k => d (21 + k))))] H_92 := hP_94
        have hD_95 : va_D (aof (wC9 g a ay Fa d0 r0 d)) [(a 0, .inr (3, [.int (F 0), .int (F 1), .int (F 2), .int (F 3), .int (F 4), .int (F 5), .int (F 6), .int (F 7), .ref (a 1), .ref (a 2), .ref (a 3), .ref (a 6), .int (F 61)])), (a 6, .inl (g.2.2.1, 10, .inr (.inr (.inr (.inr R9))))), (a 1, .inr (2, [.int (F 8), .int (F 9), .int (F 10), .int (F 11)])), (a 2, .inr (2, [.int (F 12), .int (F 13), .int (F 14), .int (F 15)])), (a 3, .inr (1, [.int (F 16), .int (F 17), .int (F 18), .ref (a 4), .ref (a 5)])), cI g (a 4) 21 d, cI g (a 5) 21 (((fun k => d (21 + k)))), cI g (ay 4) 21 d, cI g (ay 5) 21 (((fun k => d (21 + k))))] := hD_95
        have hX_99 := hX.at hS_96
        exact k_vretM hC hr hlk hS_96 dX3_copyFrom_133 (cf_end hP_94 (by rw [hR, show zi = 10 by omega]))
      · obtain ⟨qj, vsj, hj1, hj2, hj3⟩ := hRK zi (by omega)
        refine lv_aload_n hx hb dX3_copyFrom_107 rfl (lvG hl rfl) ?_
        refine va_get (D := g.1) (ci := 3) (v := .ref (a 6)) (C := RX3) (T := TX3) (N := 13) hx hb hts i_X3 hown hK.1 hM9 0 rfl rfl 11 (by decide) (hts _ w_143) (fun _ h9 => h9) rfl dX3_copyFrom_108 ?_
        refine lv_iload_n hx hb dX3_copyFrom_111 rfl (lvG hl rfl) ?_
        refine lv_aload_n hx hb dX3_copyFrom_112 rfl (lvG hl rfl) ?_
        refine va_get (D := g.1) (ci := 3) (v := .ref (ay 6)) (C := RX3) (T := TX3) (N := 13) hx hb hts i_X3 hown hK.1 hX9.1 0 rfl rfl 11 (by decide) (hts _ w_143) (fun _ h9 => h9) rfl dX3_copyFrom_113 ?_
        refine lv_iload_n hx hb dX3_copyFrom_116 rfl (lvG hl rfl) ?_
        refine q_ald (k := zi) (b := qj) hC hK hX9.1 1 rfl (by omega) (by decide) (hj1) dX3_copyFrom_117 ?_
        refine q_astO (k := zi) hC hK hM9 hD9 hS9 1 rfl ((hj3.kept (hS9.2.1 _ hj3.lt hj2))) (by omega) (by decide) dX3_copyFrom_118 (fun H_100 locs_101 hP_102 hD_103 hS_104 hz_105 hk_106 => ?_)
        have hP_102 : va_P g.1 kCl [(a 0, .inr (3, [.int (F 0), .int (F 1), .int (F 2), .int (F 3), .int (F 4), .int (F 5), .int (F 6), .int (F 7), .ref (a 1), .ref (a 2), .ref (a 3), .ref (a 6), .int (Fa 61)])), (a 6, .inl (g.2.2.1, 10, .inr (.inr (.inr (.inr (va_up R9 zi (some qj))))))), (a 1, .inr (2, [.int (F 8), .int (F 9), .int (F 10), .int (F 11)])), (a 2, .inr (2, [.int (F 12), .int (F 13), .int (F 14), .int (F 15)])), (a 3, .inr (1, [.int (F 16), .int (F 17), .int (F 18), .ref (a 4), .ref (a 5)])), cI g (a 4) 21 d, cI g (a 5) 21 (((fun k => d (21 + k)))), cI g (ay 4) 21 d, cI g (ay 5) 21 (((fun k => d (21 + k))))] H_100 := hP_102
        have hD_103 : va_D (aof (wC9 g a ay Fa d0 r0 d)) [(a 0, .inr (3, [.int (F 0), .int (F 1), .int (F 2), .int (F 3), .int (F 4), .int (F 5), .int (F 6), .int (F 7), .ref (a 1), .ref (a 2), .ref (a 3), .ref (a 6), .int (Fa 61)])), (a 6, .inl (g.2.2.1, 10, .inr (.inr (.inr (.inr (va_up R9 zi (some qj))))))), (a 1, .inr (2, [.int (F 8), .int (F 9), .int (F 10), .int (F 11)])), (a 2, .inr (2, [.int (F 12), .int (F 13), .int (F 14), .int (F 15)])), (a 3, .inr (1, [.int (F 16), .int (F 17), .int (F 18), .ref (a 4), .ref (a 5)])), cI g (a 4) 21 d, cI g (a 5) 21 (((fun k => d (21 + k)))), cI g (ay 4) 21 d, cI g (ay 5) 21 (((fun k => d (21 + k))))] := hD_103
        have hX_107 := hX.at hS_104
        refine n_iinc (lv' := [(2, .int (nI (zi + 1))), (0, .ref (a 0)), (1, .ref (ay 0))]) hC dX3_copyFrom_119 hl rfl (by decide) rfl (fun ls hl => ?_)
        refine lv_goto (tgt := 101) hx hb dX3_copyFrom_122 (by decide) ?_
        exact ih_91 (zi + 1) (va_up R9 zi (some qj)) _ _ hP_102 hD_103 hS_104 (by first | omega | assumption | rfl) (by rw [hR]; exact mx_s hj1) (by omega) ls (lv_sub hl [0, 1, 2] rfl)
  exact key_89 ((10 - 0) + 1) 0 r0 _ _ hM_86 hD_87 hS_84 (by first | rfl | omega | assumption) ((mx_0 _ _).symm) (Nat.lt_succ_self _) ls (lv_sub hl [0, 1, 2] rfl)
abbrev wMH (g : kG) (x : Nat → Nat) (y n q0 q1 q2 q3 : Nat) : va_W := [cM x y n, cH g (x 1) (h4 q0 q1 q2 q3)]
theorem do_end {g : kG} {x : Nat → Nat} {y q0 q1 q2 q3 : Nat} {H : Heap} (h : va_P g.1 kCl [cM x y 3, cH g (x 1) (va_up (va_up (va_up (va_up (h4 q0 q1 q2 q3) 0 (some q1)) 1 (some q2)) 2 (some q3)) 3 (some q0))] H) : va_P g.1 kCl (wMH g x y 3 q1 q2 q3 q0) H := by
  intro k q hq
  match k, hq with
  | 0, hq => cases hq; exact h 0 _ rfl
  | 1, hq =>
    cases hq
    refine cH_eq (fun k hk => ?_) (h 1 _ rfl)
    rcases (show k = 0 ∨ k = 1 ∨ k = 2 ∨ k = 3 by omega) with e | e | e | e <;> subst e <;> rfl
  | k + 2, hq => simp at hq
set_option maxHeartbeats 4000000 in
set_option maxRecDepth 100000 in
theorem c_X4_dropOldestState (l : Launch) (g : kG) (x : Nat → Nat) (y : Nat) (q0 : Nat) (q1 : Nat) (q2 : Nat) (q3 : Nat) (vs0 : List Value) (vs1 : List Value) (vs2 : List Value) (vs3 : List Value) (hDa : va_D (fun _ => True) (wMH g x y 4 q0 q1 q2 q3)) : MV l yX4_dropOldestState cX4_dropOldestState 3 none (rr 0 0) [.ref (x 0)] ((fun H => va_P g.1 kCl (wMH g x y 4 q0 q1 q2 q3) H ∧ XK g [(q0, .inr (3, vs0)), (q1, .inr (3, vs1)), (q2, .inr (3, vs2)), (q3, .inr (3, vs3))] (aof (wMH g x y 4 q0 q1 q2 q3)) H)) g 0 0 (aof (wMH g x y 4 q0 q1 q2 q3)) (fun H1 => va_P g.1 kCl (wMH g x y 3 q1 q2 q3 q0) H1) := by
  refine kOf (by decide) (Nat.le_of_ble_eq_true rfl) (fun p e s m below meth c ls hC hr hlk hin hK hP hl => ?_)
  have hx := hC.1
  have hb := hC.2.1
  have hml := hC.2.2.1
  have hown := hC.2.2.2.1
  have hts := hC.2.2.2.2
  have hl : lv_has ls 3 [(0, .ref (x 0))] := hl
  obtain ⟨hM, hX⟩ := hP
  have hD : va_D (aof (wMH g x y 4 q0 q1 q2 q3)) (wMH g x y 4 q0 q1 q2 q3) := va_D.weaken hDa (fun k q h _ => aof_at k h)
  have hS : va_S (aof (wMH g x y 4 q0 q1 q2 q3)) s.heap s.heap [] := va_S.rf
  refine lv_aload_n hx hb dX4_dropOldestState_0 rfl (lvG hl rfl) ?_
  refine va_get (D := g.1) (ci := 4) (v := .ref (x 1)) (C := RX4) (T := TX4) (N := 7) hx hb hts i_X4 hown hK.1 hM 0 rfl rfl 1 (by decide) (hts _ w_176) (fun _ h9 => h9) rfl dX4_dropOldestState_1 ?_
  refine lv_iconst (v := nI 0) hx hb dX4_dropOldestState_4 (by decide) ?_
  refine q_ald2 (k := 0) (b := q0) hC hK hM 1 rfl (by omega) (by decide) (rfl) dX4_dropOldestState_5 ?_
  refine lv_astore_n (lv' := [(1, .ref q0), (0, .ref (x 0))]) hx hb dX4_dropOldestState_6 rfl hl (by decide) rfl (fun ls hl => ?_)
  refine lv_iconst (v := nI 1) hx hb dX4_dropOldestState_7 (by decide) ?_
  refine lv_istore_n (lv' := [(2, .int (nI 1)), (1, .ref q0), (0, .ref (x 0))]) hx hb dX4_dropOldestState_8 rfl hl (by decide) rfl (fun ls hl => ?_)
  refine lv_iload_n hx hb dX4_dropOldestState_9 rfl (lvG hl rfl) ?_
  refine lv_iconst (v := nI 4) hx hb dX4_dropOldestState_10 (by decide) ?_
  refine n_icmp_ge (tgt := 34) hC dX4_dropOldestState_11 (by decide) (by decide) (by decide) (fun c => absurd c (by decide)) (fun _ => ?_)
  refine lv_aload_n hx hb dX4_dropOldestState_14 rfl (lvG hl rfl) ?_
  refine va_get (D := g.1) (ci := 4) (v := .ref (x 1)) (C := RX4) (T := TX4) (N := 7) hx hb hts i_X4 hown hK.1 hM 0 rfl rfl 1 (by decide) (hts _ w_176) (fun _ h9 => h9) rfl dX4_dropOldestState_15 ?_
  refine lv_iload_n hx hb dX4_dropOldestState_18 rfl (lvG hl rfl) ?_
  refine lv_iconst (v := nI 1) hx hb dX4_dropOldestState_19 (by decide) ?_
  refine n_isubz (z := 0) hC dX4_dropOldestState_20 (by omega) rfl ?_
  refine lv_aload_n hx hb dX4_dropOldestState_21 rfl (lvG hl rfl) ?_
  refine va_get (D := g.1) (ci := 4) (v := .ref (x 1)) (C := RX4) (T := TX4) (N := 7) hx hb hts i_X4 hown hK.1 hM 0 rfl rfl 1 (by decide) (hts _ w_176) (fun _ h9 => h9) rfl dX4_dropOldestState_22 ?_
  refine lv_iload_n hx hb dX4_dropOldestState_25 rfl (lvG hl rfl) ?_
  refine q_ald2 (k := 1) (b := q1) hC hK hM 1 rfl (by omega) (by decide) (rfl) dX4_dropOldestState_26 ?_
  refine q_astO2 (k := 0) hC hK hM hD hS 1 rfl (hX.1 1 _ rfl) (by omega) (by decide) dX4_dropOldestState_27 (fun H_1 locs_2 hP_3 hD_4 hS_5 hz_6 hk_7 => ?_)
  have hP_3 : va_P g.1 kCl [(x 0, .inr (4, [.ref y, .ref (x 1), .int (nI 4), .ref (x 2), .ref (x 5), .ref (x 6), .ref (x 7)])), (x 1, .inl (g.2.2.2, 4, .inr (.inr (.inr (.inr (va_up ((h4 q0 q1 q2 q3)) 0 (some q1)))))))] H_1 := hP_3
  have hD_4 : va_D (aof (wMH g x y 4 q0 q1 q2 q3)) [(x 0, .inr (4, [.ref y, .ref (x 1), .int (nI 4), .ref (x 2), .ref (x 5), .ref (x 6), .ref (x 7)])), (x 1, .inl (g.2.2.2, 4, .inr (.inr (.inr (.inr (va_up ((h4 q0 q1 q2 q3)) 0 (some q1)))))))] := hD_4
  have hX_8 := hX.at hS_5
  refine n_iinc (lv' := [(2, .int (nI 2)), (1, .ref q0), (0, .ref (x 0))]) hC dX4_dropOldestState_28 hl rfl (by decide) rfl (fun ls hl => ?_)
  refine lv_goto (tgt := 9) hx hb dX4_dropOldestState_31 (by decide) ?_
  refine lv_iload_n hx hb dX4_dropOldestState_9 rfl (lvG hl rfl) ?_
  refine lv_iconst (v := nI 4) hx hb dX4_dropOldestState_10 (by decide) ?_
  refine n_icmp_ge (tgt := 34) hC dX4_dropOldestState_11 (by decide) (by decide) (by decide) (fun c => absurd c (by decide)) (fun _ => ?_)
  refine lv_aload_n hx hb dX4_dropOldestState_14 rfl (lvG hl rfl) ?_
  refine va_get (D := g.1) (ci := 4) (v := .ref (x 1)) (C := RX4) (T := TX4) (N := 7) hx hb hts i_X4 hown hK.1 hP_3 0 rfl rfl 1 (by decide) (hts _ w_176) (fun _ h9 => h9) rfl dX4_dropOldestState_15 ?_
  refine lv_iload_n hx hb dX4_dropOldestState_18 rfl (lvG hl rfl) ?_
  refine lv_iconst (v := nI 1) hx hb dX4_dropOldestState_19 (by decide) ?_
  refine n_isubz (z := 1) hC dX4_dropOldestState_20 (by omega) rfl ?_
  refine lv_aload_n hx hb dX4_dropOldestState_21 rfl (lvG hl rfl) ?_
  refine va_get (D := g.1) (ci := 4) (v := .ref (x 1)) (C := RX4) (T := TX4) (N := 7) hx hb hts i_X4 hown hK.1 hP_3 0 rfl rfl 1 (by decide) (hts _ w_176) (fun _ h9 => h9) rfl dX4_dropOldestState_22 ?_
  refine lv_iload_n hx hb dX4_dropOldestState_25 rfl (lvG hl rfl) ?_
  refine q_ald2 (k := 2) (b := q2) hC hK hP_3 1 rfl (by omega) (by decide) (rfl) dX4_dropOldestState_26 ?_
  refine q_astO2 (k := 1) hC hK hP_3 hD_4 hS_5 1 rfl (hX_8.1 2 _ rfl) (by omega) (by decide) dX4_dropOldestState_27 (fun H_9 locs_10 hP_11 hD_12 hS_13 hz_14 hk_15 => ?_)
  have hP_11 : va_P g.1 kCl [(x 0, .inr (4, [.ref y, .ref (x 1), .int (nI 4), .ref (x 2), .ref (x 5), .ref (x 6), .ref (x 7)])), (x 1, .inl (g.2.2.2, 4, .inr (.inr (.inr (.inr (va_up (va_up ((h4 q0 q1 q2 q3)) 0 (some q1)) 1 (some q2)))))))] H_9 := hP_11
  have hD_12 : va_D (aof (wMH g x y 4 q0 q1 q2 q3)) [(x 0, .inr (4, [.ref y, .ref (x 1), .int (nI 4), .ref (x 2), .ref (x 5), .ref (x 6), .ref (x 7)])), (x 1, .inl (g.2.2.2, 4, .inr (.inr (.inr (.inr (va_up (va_up ((h4 q0 q1 q2 q3)) 0 (some q1)) 1 (some q2)))))))] := hD_12
  have hX_16 := hX.at hS_13
  refine n_iinc (lv' := [(2, .int (nI 3)), (1, .ref q0), (0, .ref (x 0))]) hC dX4_dropOldestState_28 hl rfl (by decide) rfl (fun ls hl => ?_)
  refine lv_goto (tgt := 9) hx hb dX4_dropOldestState_31 (by decide) ?_
  refine lv_iload_n hx hb dX4_dropOldestState_9 rfl (lvG hl rfl) ?_
  refine lv_iconst (v := nI 4) hx hb dX4_dropOldestState_10 (by decide) ?_
  refine n_icmp_ge (tgt := 34) hC dX4_dropOldestState_11 (by decide) (by decide) (by decide) (fun c => absurd c (by decide)) (fun _ => ?_)
  refine lv_aload_n hx hb dX4_dropOldestState_14 rfl (lvG hl rfl) ?_
  refine va_get (D := g.1) (ci := 4) (v := .ref (x 1)) (C := RX4) (T := TX4) (N := 7) hx hb hts i_X4 hown hK.1 hP_11 0 rfl rfl 1 (by decide) (hts _ w_176) (fun _ h9 => h9) rfl dX4_dropOldestState_15 ?_
  refine lv_iload_n hx hb dX4_dropOldestState_18 rfl (lvG hl rfl) ?_
  refine lv_iconst (v := nI 1) hx hb dX4_dropOldestState_19 (by decide) ?_
  refine n_isubz (z := 2) hC dX4_dropOldestState_20 (by omega) rfl ?_
  refine lv_aload_n hx hb dX4_dropOldestState_21 rfl (lvG hl rfl) ?_
  refine va_get (D := g.1) (ci := 4) (v := .ref (x 1)) (C := RX4) (T := TX4) (N := 7) hx hb hts i_X4 hown hK.1 hP_11 0 rfl rfl 1 (by decide) (hts _ w_176) (fun _ h9 => h9) rfl dX4_dropOldestState_22 ?_
  refine lv_iload_n hx hb dX4_dropOldestState_25 rfl (lvG hl rfl) ?_
  refine q_ald2 (k := 3) (b := q3) hC hK hP_11 1 rfl (by omega) (by decide) (rfl) dX4_dropOldestState_26 ?_
  refine q_astO2 (k := 2) hC hK hP_11 hD_12 hS_13 1 rfl (hX_16.1 3 _ rfl) (by omega) (by decide) dX4_dropOldestState_27 (fun H_17 locs_18 hP_19 hD_20 hS_21 hz_22 hk_23 => ?_)
  have hP_19 : va_P g.1 kCl [(x 0, .inr (4, [.ref y, .ref (x 1), .int (nI 4), .ref (x 2), .ref (x 5), .ref (x 6), .ref (x 7)])), (x 1, .inl (g.2.2.2, 4, .inr (.inr (.inr (.inr (va_up (va_up (va_up ((h4 q0 q1 q2 q3)) 0 (some q1)) 1 (some q2)) 2 (some q3)))))))] H_17 := hP_19
  have hD_20 : va_D (aof (wMH g x y 4 q0 q1 q2 q3)) [(x 0, .inr (4, [.ref y, .ref (x 1), .int (nI 4), .ref (x 2), .ref (x 5), .ref (x 6), .ref (x 7)])), (x 1, .inl (g.2.2.2, 4, .inr (.inr (.inr (.inr (va_up (va_up (va_up ((h4 q0 q1 q2 q3)) 0 (some q1)) 1 (some q2)) 2 (some q3)))))))] := hD_20
  have hX_24 := hX.at hS_21
  refine n_iinc (lv' := [(2, .int (nI 4)), (1, .ref q0), (0, .ref (x 0))]) hC dX4_dropOldestState_28 hl rfl (by decide) rfl (fun ls hl => ?_)
  refine lv_goto (tgt := 9) hx hb dX4_dropOldestState_31 (by decide) ?_
  refine lv_iload_n hx hb dX4_dropOldestState_9 rfl (lvG hl rfl) ?_
  refine lv_iconst (v := nI 4) hx hb dX4_dropOldestState_10 (by decide) ?_
  refine n_icmp_ge (tgt := 34) hC dX4_dropOldestState_11 (by decide) (by decide) (by decide) (fun _ => ?_) (fun c => absurd c (by decide))
  refine lv_aload_n hx hb dX4_dropOldestState_34 rfl (lvG hl rfl) ?_
  refine va_get (D := g.1) (ci := 4) (v := .ref (x 1)) (C := RX4) (T := TX4) (N := 7) hx hb hts i_X4 hown hK.1 hP_19 0 rfl rfl 1 (by decide) (hts _ w_176) (fun _ h9 => h9) rfl dX4_dropOldestState_35 ?_
  refine lv_iconst (v := nI 3) hx hb dX4_dropOldestState_38 (by decide) ?_
  refine lv_aload_n hx hb dX4_dropOldestState_39 rfl (lvG hl rfl) ?_
  refine q_astO2 (k := 3) hC hK hP_19 hD_20 hS_21 1 rfl (hX_24.1 0 _ rfl) (by omega) (by decide) dX4_dropOldestState_40 (fun H_25 locs_26 hP_27 hD_28 hS_29 hz_30 hk_31 => ?_)
  have hP_27 : va_P g.1 kCl [(x 0, .inr (4, [.ref y, .ref (x 1), .int (nI 4), .ref (x 2), .ref (x 5), .ref (x 6), .ref (x 7)])), (x 1, .inl (g.2.2.2, 4, .inr (.inr (.inr (.inr (va_up (va_up (va_up (va_up ((h4 q0 q1 q2 q3)) 0 (some q1)) 1 (some q2)) 2 (some q3)) 3 (some q0)))))))] H_25 := hP_27
  have hD_28 : va_D (aof (wMH g x y 4 q0 q1 q2 q3)) [(x 0, .inr (4, [.ref y, .ref (x 1), .int (nI 4), .ref (x 2), .ref (x 5), .ref (x 6), .ref (x 7)])), (x 1, .inl (g.2.2.2, 4, .inr (.inr (.inr (.inr (va_up (va_up (va_up (va_up ((h4 q0 q1 q2 q3)) 0 (some q1)) 1 (some q2)) 2 (some q3)) 3 (some q0)))))))] := hD_28
  have hX_32 := hX.at hS_29
  refine lv_aload_n hx hb dX4_dropOldestState_41 rfl (lvG hl rfl) ?_
  refine lv_iconst (v := nI 3) hx hb dX4_dropOldestState_42 (by decide) ?_
  refine k_putO (ci := 4) (v := .int (nI 3)) (ty := .int) (C := RX4) (T := TX4) (N := 7) hC hK i_X4 tyX4 tyX4_ok nmX4 hP_27 hD_28 hS_29 0 rfl rfl 2 (by decide) w_177 (fun _ h9 => h9) rfl (by decide +kernel) rfl rfl (Nat.le_of_ble_eq_true rfl) dX4_dropOldestState_43 (fun H_33 locs_34 hP_35 hD_36 hS_37 hz_38 hk_39 => ?_)
  have hP_35 : va_P g.1 kCl [(x 0, .inr (4, [.ref y, .ref (x 1), .int (nI 3), .ref (x 2), .ref (x 5), .ref (x 6), .ref (x 7)])), (x 1, .inl (g.2.2.2, 4, .inr (.inr (.inr (.inr (va_up (va_up (va_up (va_up ((h4 q0 q1 q2 q3)) 0 (some q1)) 1 (some q2)) 2 (some q3)) 3 (some q0)))))))] H_33 := hP_35
  have hD_36 : va_D (aof (wMH g x y 4 q0 q1 q2 q3)) [(x 0, .inr (4, [.ref y, .ref (x 1), .int (nI 3), .ref (x 2), .ref (x 5), .ref (x 6), .ref (x 7)])), (x 1, .inl (g.2.2.2, 4, .inr (.inr (.inr (.inr (va_up (va_up (va_up (va_up ((h4 q0 q1 q2 q3)) 0 (some q1)) 1 (some q2)) 2 (some q3)) 3 (some q0)))))))] := hD_36
  have hX_40 := hX.at hS_37
  exact k_vretM hC hr hlk hS_37 dX4_dropOldestState_46 (do_end hP_35)
