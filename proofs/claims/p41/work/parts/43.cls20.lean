def KF (M : Nat → Prop) (Hs H : Heap) : Prop := Hs.size ≤ H.size ∧ ∀ q : Nat, q < Hs.size → ¬ M q → H[q]? = Hs[q]?
theorem KF.rf {M : Nat → Prop} {Hs : Heap} : KF M Hs Hs := ⟨Nat.le_refl _, fun _ _ _ => rfl⟩
theorem KF.put {M : Nat → Prop} {Hs H H1 : Heap} {y : Nat} (h : KF M Hs H) (hz : H1.size = H.size) (hk : ∀ q : Nat, q ≠ y → H1[q]? = H[q]?) (hy : M y) : KF M Hs H1 := ⟨by rw [hz]; exact h.1, fun q h1 h2 => (hk q (fun e => h2 (by rw [e]; exact hy))).trans (h.2 q h1 h2)⟩
theorem KF.call {M A1 : Nat → Prop} {Hs H H1 : Heap} (h : KF M Hs H) (hz : H.size ≤ H1.size) (hk : ∀ q : Nat, q < H.size → ¬ A1 q → H1[q]? = H[q]?) (hA : ∀ q, A1 q → M q) : KF M Hs H1 := ⟨Nat.le_trans h.1 hz, fun q h1 h2 => (hk q (Nat.lt_of_lt_of_le h1 h.1) (fun c => h2 (hA q c))).trans (h.2 q h1 h2)⟩
abbrev cTr (x : Nat → Nat) : Nat × va_E := cC (x 2) (x 3) (x 4) (nI 0) (nI 0)
theorem XR.trial {g : kG} {x : Nat → Nat} {M : Nat → Prop} {f : Nat → Int32} {n : Nat} {hs : Nat → Option Nat} {ws : va_W} {H : Heap} (h : XR g x M f n hs ws H) : ∃ w2, ws = cTr x :: w2 := by
  obtain ⟨a1, a2, a3, a4, F1, F2, F3, F4, d1, d2, d3, d4, r1, r2, r3, r4, e1, e2, -⟩ := h
  exact ⟨_, e2⟩
theorem BOK.congr16 {g : kG} {x : Nat → Nat} {M : Nat → Prop} {F F' d : Nat → Int32} {r : Nat → Option Nat} {H : Heap} (h : BOK g x M F d r H) (e : ∀ j, 16 ≤ j → j < 502 → F j = F' j) : BOK g x M F' d r H := by
  obtain ⟨h0, h1, h2, h3⟩ := h
  refine ⟨?_, fun q k hk => ?_, h2, fun i hi hi2 => ?_⟩
  · rw [← e 16 (by omega) (by omega)]; exact h0
  · rw [← e 16 (by omega) (by omega)] at q; rw [← e (19 + k) (by omega) (by omega)]; exact h1 q k hk
  · rw [← e 61 (by omega) (by omega)] at hi
    obtain ⟨q, qo, qi, e1, e2, e3, e4, e5⟩ := h3 i hi hi2
    rw [← e (62 + 44 * i) (by omega) (by omega), ← e (62 + 44 * i + 1) (by omega) (by omega)]
    exact ⟨q, qo, qi, e1, PC_eq e2 (fun k hk => e _ (by omega) (by omega)), e3, e4, e5⟩
theorem card_at {g : kG} {x : Nat → Nat} {M : Nat → Prop} {q : Nat} {H0 H : Heap} {vt : List Value} (c : q = x 2 ∨ (¬ MU x M q ∧ ∃ vs, va_at g.1 kCl (q, .inr (0, vs)) H0)) (ht : va_at g.1 kCl (x 2, .inr (0, vt)) H) (hk : ∀ q : Nat, q < H0.size → ¬ M q → H[q]? = H0[q]?) : ∃ vs, va_at g.1 kCl (q, .inr (0, vs)) H := by
  rcases c with c | c
  · subst c; exact ⟨vt, ht⟩
  · obtain ⟨c, vs, c2⟩ := c
    exact ⟨vs, c2.kept (hk q c2.lt (fun z => c (Or.inl z)))⟩
theorem put_t {g : kG} {x a : Nat → Nat} {M : Nat → Prop} {f f1 : Nat → Int32} {n p : Nat} {P : Prop} [Decidable P] {v : Int32} {H : Heap} (h : P) (ef : f1 = s_rec f n) (hX : XW g x a M (upd f1 p v) (s_recn n) H) : f1 p = s_putr f n p P ∧ XW g x a M (s_putf f n p P v) (s_putn n P) H := by
  subst ef
  unfold s_putr s_putf s_putn
  rw [if_pos h, if_pos h, if_pos h]
  exact ⟨rfl, hX⟩
theorem put_f {g : kG} {x a : Nat → Nat} {M : Nat → Prop} {f : Nat → Int32} {n p : Nat} {P : Prop} [Decidable P] {v : Int32} {H : Heap} (h : ¬ P) (hX : XW g x a M f n H) : cINV = s_putr f n p P ∧ XW g x a M (s_putf f n p P v) (s_putn n P) H := by
  unfold s_putr s_putf s_putn
  rw [if_neg h, if_neg h, if_neg h]
  exact ⟨rfl, hX⟩
theorem L_X4_X4_recordState : LnkV RX4 52 yX4_recordState cX4_recordState 1 none 0 := ⟨w_205, w_207, w_0, w_25, w_208, ⟨by decide +kernel, by decide +kernel⟩, by decide +kernel⟩
set_option maxHeartbeats 4000000 in
set_option maxRecDepth 100000 in
theorem c_X4_setClearance (l : Launch) (g : kG) (x : Nat → Nat) (a : Nat → Nat) (M : Nat → Prop) (f : Nat → Int32) (n : Nat) (v : Int32) : MI l yX4_setClearance cX4_setClearance 3 (some .int) (rr 4 103) [.ref (x 0), .int (v)] ((XW g x a M f n)) g 0 0 (M) (fun r H1 => r = s_putr f n 0 (nI 1 ≤ v ∧ v ≤ nI 20) ∧ XW g x a M (s_putf f n 0 (nI 1 ≤ v ∧ v ≤ nI 20) v) (s_putn n (nI 1 ≤ v ∧ v ≤ nI 20)) H1) := by
  refine kOf (by decide) (Nat.le_of_ble_eq_true rfl) (fun p e s m below meth c ls hC hr hlk hin hK hP hl => ?_)
  have hx := hC.1
  have hb := hC.2.1
  have hml := hC.2.2.1
  have hown := hC.2.2.2.1
  have hts := hC.2.2.2.2
  have hl : lv_has ls 3 [(0, .ref (x 0)), (1, .int (v))] := hl
  have hXW := hP
  obtain ⟨hn4, hm, hx0, d, r, hs, w0, hM, hD, hR, hB⟩ := hXW
  obtain ⟨ws, ews⟩ := hR.trial
  subst ews
  have hXW : XW g x a M f n s.heap := XW.mk hn4 hm hx0 hM hD hR hB
  have hF : KF M s.heap s.heap := KF.rf
  have hS : va_S (M) s.heap s.heap [] := va_S.rf
  refine lv_iload_n hx hb dX4_setClearance_0 rfl (lvG hl rfl) ?_
  refine lv_iconst (v := nI 1) hx hb dX4_setClearance_1 (by decide) ?_
  refine lv_bipush (v := nI 20) hx hb dX4_setClearance_2 (by decide) ?_
  refine k_callPI (k_goS (rest := []) hC hK (c_X4_isWithin l g v (nI 1) (nI 20)) L_X4_X4_isWithin (⟨⟨Nat.le_of_ble_eq_true rfl, Nat.le_of_ble_eq_true rfl⟩, ⟨rfl, rfl⟩, ⟨Nat.le_of_ble_eq_true rfl, Nat.le_of_ble_eq_true rfl⟩⟩) (trivial) rfl hl.1 rfl (Nat.le_of_ble_eq_true rfl) dX4_setClearance_4) ?_
  refine b_ifne (tgt := 13) hC dX4_setClearance_7 (by decide) (fun zc7 => ?_) (fun zc7 => ?_)
  · refine lv_aload_n hx hb dX4_setClearance_13 rfl (lvG hl rfl) ?_
    refine k_callMV0 (k_goV (rest := []) hC hK (c_X4_recordState l g x a M f n) L_X4_X4_recordState (⟨⟨Nat.le_of_ble_eq_true rfl, Nat.le_of_ble_eq_true rfl⟩, ⟨rfl, rfl⟩, ⟨Nat.le_of_ble_eq_true rfl, Nat.le_of_ble_eq_true rfl⟩⟩) (k_recv hK hM 0 rfl rfl) (hXW) rfl hl.1 rfl (Nat.le_of_ble_eq_true rfl) dX4_setClearance_14) hS (fun _ h => h) (fun H_1 locs_2 hQ_3 hz_ hk_5 hS_4 => ?_)
    obtain ⟨f6, ef6⟩ : ∃ z, z = s_rec f n := ⟨_, rfl⟩
    rw [← ef6] at hQ_3
    obtain ⟨hn6, hm6, hx06, d6, r6, hs6, w06, hM6, hD6, hR6, hB6⟩ := hQ_3
    obtain ⟨ws6, ews6⟩ := hR6.trial
    subst ews6
    have hXW6 := XW.mk hn6 hm6 hx06 hM6 hD6 hR6 hB6
    have hF6 : KF M H_1 H_1 := KF.rf
    refine lv_aload_n hx hb dX4_setClearance_17 rfl (lvG hl rfl) ?_
    refine va_get (D := g.1) (ci := 4) (v := .ref (a 0)) (C := RX4) (T := TX4) (N := 7) hx hb hts i_X4 hown hK.1 hM6 0 rfl rfl 0 (by decide) (hts _ w_175) (fun _ h9 => h9) rfl dX4_setClearance_18 ?_
    refine va_get (D := g.1) (ci := 3) (v := .int (f6 0)) (C := RX3) (T := TX3) (N := 13) hx hb hts i_X3 hown hK.1 hM6 2 rfl rfl 0 (by decide) (hts _ w_123) (fun _ h9 => h9) rfl dX4_setClearance_21 ?_
    refine lv_istore_n (lv' := [(2, .int (f6 0)), (0, .ref (x 0)), (1, .int (v))]) hx hb dX4_setClearance_24 rfl hl (by decide) rfl (fun ls hl => ?_)
    refine lv_aload_n hx hb dX4_setClearance_25 rfl (lvG hl rfl) ?_
    refine va_get (D := g.1) (ci := 4) (v := .ref (a 0)) (C := RX4) (T := TX4) (N := 7) hx hb hts i_X4 hown hK.1 hM6 0 rfl rfl 0 (by decide) (hts _ w_175) (fun _ h9 => h9) rfl dX4_setClearance_26 ?_
    refine lv_iload_n hx hb dX4_setClearance_29 rfl (lvG hl rfl) ?_
    refine k_putO (ci := 3) (v := .int (v)) (ty := .int) (C := RX3) (T := TX3) (N := 13) hC hK i_X3 tyX3 tyX3_ok nmX3 hM6 hD6 hS_4 2 rfl rfl 0 (by decide) w_123 (fun _ h9 => h9) rfl (by decide +kernel) rfl rfl (Nat.le_of_ble_eq_true rfl) dX4_setClearance_30 (fun H_7 locs_8 hP_9 hD_10 hS_11 hz_12 hk_13 => ?_)
    have hP_9 : va_P g.1 kCl ([(x 0, .inr (4, [.ref (a 0), .ref (x 1), .int (nI (s_recn n)), .ref (x 2), .ref (x 5), .ref (x 6), .ref (x 7)])), (x 1, .inl (g.2.2.2, 4, .inr (.inr (.inr (.inr hs6))))), (a 0, .inr (3, [.int (v), .int (f6 1), .int (f6 2), .int (f6 3), .int (f6 4), .int (f6 5), .int (f6 6), .int (f6 7), .ref (a 1), .ref (a 2), .ref (a 3), .ref (a 6), .int (f6 61)])), (a 6, .inl (g.2.2.1, 10, .inr (.inr (.inr (.inr r6))))), (a 1, .inr (2, [.int (f6 8), .int (f6 9), .int (f6 10), .int (f6 11)])), (a 2, .inr (2, [.int (f6 12), .int (f6 13), .int (f6 14), .int (f6 15)])), (a 3, .inr (1, [.int (f6 16), .int (f6 17), .int (f6 18), .ref (a 4), .ref (a 5)])), cI g (a 4) 21 d6, cI g (a 5) 21 ((fun k => d6 (21 + k))), (x 2, .inr (0, [.int (nI 0), .int (nI 0), .ref (x 3), .ref (x 4)]))] ++ ws6) H_7 := hP_9
    have hD_10 : va_D (M) ([(x 0, .inr (4, [.ref (a 0), .ref (x 1), .int (nI (s_recn n)), .ref (x 2), .ref (x 5), .ref (x 6), .ref (x 7)])), (x 1, .inl (g.2.2.2, 4, .inr (.inr (.inr (.inr hs6))))), (a 0, .inr (3, [.int (v), .int (f6 1), .int (f6 2), .int (f6 3), .int (f6 4), .int (f6 5), .int (f6 6), .int (f6 7), .ref (a 1), .ref (a 2), .ref (a 3), .ref (a 6), .int (f6 61)])), (a 6, .inl (g.2.2.1, 10, .inr (.inr (.inr (.inr r6))))), (a 1, .inr (2, [.int (f6 8), .int (f6 9), .int (f6 10), .int (f6 11)])), (a 2, .inr (2, [.int (f6 12), .int (f6 13), .int (f6 14), .int (f6 15)])), (a 3, .inr (1, [.int (f6 16), .int (f6 17), .int (f6 18), .ref (a 4), .ref (a 5)])), cI g (a 4) 21 d6, cI g (a 5) 21 ((fun k => d6 (21 + k))), (x 2, .inr (0, [.int (nI 0), .int (nI 0), .ref (x 3), .ref (x 4)]))] ++ ws6) := hD_10
    have hF_14 := KF.put hF6 hz_12 hk_13 (hD_10.2 2 _ rfl)
    refine lv_iload_n hx hb dX4_setClearance_33 rfl (lvG hl rfl) ?_
    exact k_iretM hC hr hlk hS_11 dX4_setClearance_34 (put_t zc7 ef6 (XW.close (ws := cTr x :: ws6) (d' := d6) (r' := r6) hXW6 hP_9 hD_10 hR6 hF_14.2 (fun j h1 h2 => upd_ne _ _ _ _ (by omega)) ((hB6.kept (fun q h c => hF_14.2 q h (fun z => c (Or.inl z)))).congr16 (fun j h1 h2 => (upd_ne _ _ _ _ (by omega)).symm))))
  · refine lv_ldc (v := (-2000000001 : Int32)) hx hb hown (hts _ w_204) dX4_setClearance_10 ?_
    exact k_iretM hC hr hlk hS dX4_setClearance_12 (put_f zc7 hXW)
set_option maxHeartbeats 4000000 in
set_option maxRecDepth 100000 in
theorem c_X4_setStroke (l : Launch) (g : kG) (x : Nat → Nat) (a : Nat → Nat) (M : Nat → Prop) (f : Nat → Int32) (n : Nat) (v : Int32) : MI l yX4_setStroke cX4_setStroke 3 (some .int) (rr 4 103) [.ref (x 0), .int (v)] ((XW g x a M f n)) g 0 0 (M) (fun r H1 => r = s_putr f n 3 (nI 1 ≤ v ∧ v ≤ nI 300) ∧ XW g x a M (s_putf f n 3 (nI 1 ≤ v ∧ v ≤ nI 300) v) (s_putn n (nI 1 ≤ v ∧ v ≤ nI 300)) H1) := by
  refine kOf (by decide) (Nat.le_of_ble_eq_true rfl) (fun p e s m below meth c ls hC hr hlk hin hK hP hl => ?_)
  have hx := hC.1
  have hb := hC.2.1
  have hml := hC.2.2.1
  have hown := hC.2.2.2.1
  have hts := hC.2.2.2.2
  have hl : lv_has ls 3 [(0, .ref (x 0)), (1, .int (v))] := hl
  have hXW := hP
  obtain ⟨hn4, hm, hx0, d, r, hs, w0, hM, hD, hR, hB⟩ := hXW
  obtain ⟨ws, ews⟩ := hR.trial
  subst ews
  have hXW : XW g x a M f n s.heap := XW.mk hn4 hm hx0 hM hD hR hB
  have hF : KF M s.heap s.heap := KF.rf
  have hS : va_S (M) s.heap s.heap [] := va_S.rf
  refine lv_iload_n hx hb dX4_setStroke_0 rfl (lvG hl rfl) ?_
  refine lv_iconst (v := nI 1) hx hb dX4_setStroke_1 (by decide) ?_
  refine lv_sipush (v := nI 300) hx hb dX4_setStroke_2 (by decide) ?_
  refine k_callPI (k_goS (rest := []) hC hK (c_X4_isWithin l g v (nI 1) (nI 300)) L_X4_X4_isWithin (⟨⟨Nat.le_of_ble_eq_true rfl, Nat.le_of_ble_eq_true rfl⟩, ⟨rfl, rfl⟩, ⟨Nat.le_of_ble_eq_true rfl, Nat.le_of_ble_eq_true rfl⟩⟩) (trivial) rfl hl.1 rfl (Nat.le_of_ble_eq_true rfl) dX4_setStroke_5) ?_
  refine b_ifne (tgt := 14) hC dX4_setStroke_8 (by decide) (fun zc8 => ?_) (fun zc8 => ?_)
  · refine lv_aload_n hx hb dX4_setStroke_14 rfl (lvG hl rfl) ?_
    refine k_callMV0 (k_goV (rest := []) hC hK (c_X4_recordState l g x a M f n) L_X4_X4_recordState (⟨⟨Nat.le_of_ble_eq_true rfl, Nat.le_of_ble_eq_true rfl⟩, ⟨rfl, rfl⟩, ⟨Nat.le_of_ble_eq_true rfl, Nat.le_of_ble_eq_true rfl⟩⟩) (k_recv hK hM 0 rfl rfl) (hXW) rfl hl.1 rfl (Nat.le_of_ble_eq_true rfl) dX4_setStroke_15) hS (fun _ h => h) (fun H_1 locs_2 hQ_3 hz_ hk_5 hS_4 => ?_)
    obtain ⟨f6, ef6⟩ : ∃ z, z = s_rec f n := ⟨_, rfl⟩
    rw [← ef6] at hQ_3
    obtain ⟨hn6, hm6, hx06, d6, r6, hs6, w06, hM6, hD6, hR6, hB6⟩ := hQ_3
    obtain ⟨ws6, ews6⟩ := hR6.trial
    subst ews6
    have hXW6 := XW.mk hn6 hm6 hx06 hM6 hD6 hR6 hB6
    have hF6 : KF M H_1 H_1 := KF.rf
    refine lv_aload_n hx hb dX4_setStroke_18 rfl (lvG hl rfl) ?_
    refine va_get (D := g.1) (ci := 4) (v := .ref (a 0)) (C := RX4) (T := TX4) (N := 7) hx hb hts i_X4 hown hK.1 hM6 0 rfl rfl 0 (by decide) (hts _ w_175) (fun _ h9 => h9) rfl dX4_setStroke_19 ?_
    refine va_get (D := g.1) (ci := 3) (v := .int (f6 3)) (C := RX3) (T := TX3) (N := 13) hx hb hts i_X3 hown hK.1 hM6 2 rfl rfl 3 (by decide) (hts _ w_129) (fun _ h9 => h9) rfl dX4_setStroke_22 ?_
    refine lv_istore_n (lv' := [(2, .int (f6 3)), (0, .ref (x 0)), (1, .int (v))]) hx hb dX4_setStroke_25 rfl hl (by decide) rfl (fun ls hl => ?_)
    refine lv_aload_n hx hb dX4_setStroke_26 rfl (lvG hl rfl) ?_
    refine va_get (D := g.1) (ci := 4) (v := .ref (a 0)) (C := RX4) (T := TX4) (N := 7) hx hb hts i_X4 hown hK.1 hM6 0 rfl rfl 0 (by decide) (hts _ w_175) (fun _ h9 => h9) rfl dX4_setStroke_27 ?_
    refine lv_iload_n hx hb dX4_setStroke_30 rfl (lvG hl rfl) ?_
    refine k_putO (ci := 3) (v := .int (v)) (ty := .int) (C := RX3) (T := TX3) (N := 13) hC hK i_X3 tyX3 tyX3_ok nmX3 hM6 hD6 hS_4 2 rfl rfl 3 (by decide) w_129 (fun _ h9 => h9) rfl (by decide +kernel) rfl rfl (Nat.le_of_ble_eq_true rfl) dX4_setStroke_31 (fun H_7 locs_8 hP_9 hD_10 hS_11 hz_12 hk_13 => ?_)
    have hP_9 : va_P g.1 kCl ([(x 0, .inr (4, [.ref (a 0), .ref (x 1), .int (nI (s_recn n)), .ref (x 2), .ref (x 5), .ref (x 6), .ref (x 7)])), (x 1, .inl (g.2.2.2, 4, .inr (.inr (.inr (.inr hs6))))), (a 0, .inr (3, [.int (f6 0), .int (f6 1), .int (f6 2), .int (v), .int (f6 4), .int (f6 5), .int (f6 6), .int (f6 7), .ref (a 1), .ref (a 2), .ref (a 3), .ref (a 6), .int (f6 61)])), (a 6, .inl (g.2.2.1, 10, .inr (.inr (.inr (.inr r6))))), (a 1, .inr (2, [.int (f6 8), .int (f6 9), .int (f6 10), .int (f6 11)])), (a 2, .inr (2, [.int (f6 12), .int (f6 13), .int (f6 14), .int (f6 15)])), (a 3, .inr (1, [.int (f6 16), .int (f6 17), .int (f6 18), .ref (a 4), .ref (a 5)])), cI g (a 4) 21 d6, cI g (a 5) 21 ((fun k => d6 (21 + k))), (x 2, .inr (0, [.int (nI 0), .int (nI 0), .ref (x 3), .ref (x 4)]))] ++ ws6) H_7 := hP_9
    have hD_10 : va_D (M) ([(x 0, .inr (4, [.ref (a 0), .ref (x 1), .int (nI (s_recn n)), .ref (x 2), .ref (x 5), .ref (x 6), .ref (x 7)])), (x 1, .inl (g.2.2.2, 4, .inr (.inr (.inr (.inr hs6))))), (a 0, .inr (3, [.int (f6 0), .int (f6 1), .int (f6 2), .int (v), .int (f6 4), .int (f6 5), .int (f6 6), .int (f6 7), .ref (a 1), .ref (a 2), .ref (a 3), .ref (a 6), .int (f6 61)])), (a 6, .inl (g.2.2.1, 10, .inr (.inr (.inr (.inr r6))))), (a 1, .inr (2, [.int (f6 8), .int (f6 9), .int (f6 10), .int (f6 11)])), (a 2, .inr (2, [.int (f6 12), .int (f6 13), .int (f6 14), .int (f6 15)])), (a 3, .inr (1, [.int (f6 16), .int (f6 17), .int (f6 18), .ref (a 4), .ref (a 5)])), cI g (a 4) 21 d6, cI g (a 5) 21 ((fun k => d6 (21 + k))), (x 2, .inr (0, [.int (nI 0), .int (nI 0), .ref (x 3), .ref (x 4)]))] ++ ws6) := hD_10
    have hF_14 := KF.put hF6 hz_12 hk_13 (hD_10.2 2 _ rfl)
    refine lv_iload_n hx hb dX4_setStroke_34 rfl (lvG hl rfl) ?_
    exact k_iretM hC hr hlk hS_11 dX4_setStroke_35 (put_t zc8 ef6 (XW.close (ws := cTr x :: ws6) (d' := d6) (r' := r6) hXW6 hP_9 hD_10 hR6 hF_14.2 (fun j h1 h2 => upd_ne _ _ _ _ (by omega)) ((hB6.kept (fun q h c => hF_14.2 q h (fun z => c (Or.inl z)))).congr16 (fun j h1 h2 => (upd_ne _ _ _ _ (by omega)).symm))))
  · refine lv_ldc (v := (-2000000001 : Int32)) hx hb hown (hts _ w_204) dX4_setStroke_11 ?_
    exact k_iretM hC hr hlk hS dX4_setStroke_13 (put_f zc8 hXW)
set_option maxHeartbeats 4000000 in
set_option maxRecDepth 100000 in
theorem c_X4_setBoilerPressure (l : Launch) (g : kG) (x : Nat → Nat) (a : Nat → Nat) (M : Nat → Prop) (f : Nat → Int32) (n : Nat) (v : Int32) : MI l yX4_setBoilerPressure cX4_setBoilerPressure 3 (some .int) (rr 4 103) [.ref (x 0), .int (v)] ((XW g x a M f n)) g 0 0 (M) (fun r H1 => r = s_putr f n 4 (nI 100 ≤ v ∧ v ≤ nI 2000) ∧ XW g x a M (s_putf f n 4 (nI 100 ≤ v ∧ v ≤ nI 2000) v) (s_putn n (nI 100 ≤ v ∧ v ≤ nI 2000)) H1) := by
  refine kOf (by decide) (Nat.le_of_ble_eq_true rfl) (fun p e s m below meth c ls hC hr hlk hin hK hP hl => ?_)
  have hx := hC.1
  have hb := hC.2.1
  have hml := hC.2.2.1
  have hown := hC.2.2.2.1
  have hts := hC.2.2.2.2
  have hl : lv_has ls 3 [(0, .ref (x 0)), (1, .int (v))] := hl
  have hXW := hP
  obtain ⟨hn4, hm, hx0, d, r, hs, w0, hM, hD, hR, hB⟩ := hXW
  obtain ⟨ws, ews⟩ := hR.trial
  subst ews
  have hXW : XW g x a M f n s.heap := XW.mk hn4 hm hx0 hM hD hR hB
  have hF : KF M s.heap s.heap := KF.rf
  have hS : va_S (M) s.heap s.heap [] := va_S.rf
  refine lv_iload_n hx hb dX4_setBoilerPressure_0 rfl (lvG hl rfl) ?_
  refine lv_bipush (v := nI 100) hx hb dX4_setBoilerPressure_1 (by decide) ?_
  refine lv_sipush (v := nI 2000) hx hb dX4_setBoilerPressure_3 (by decide) ?_
  refine k_callPI (k_goS (rest := []) hC hK (c_X4_isWithin l g v (nI 100) (nI 2000)) L_X4_X4_isWithin (⟨⟨Nat.le_of_ble_eq_true rfl, Nat.le_of_ble_eq_true rfl⟩, ⟨rfl, rfl⟩, ⟨Nat.le_of_ble_eq_true rfl, Nat.le_of_ble_eq_true rfl⟩⟩) (trivial) rfl hl.1 rfl (Nat.le_of_ble_eq_true rfl) dX4_setBoilerPressure_6) ?_
  refine b_ifne (tgt := 15) hC dX4_setBoilerPressure_9 (by decide) (fun zc9 => ?_) (fun zc9 => ?_)
  · refine lv_aload_n hx hb dX4_setBoilerPressure_15 rfl (lvG hl rfl) ?_
    refine k_callMV0 (k_goV (rest := []) hC hK (c_X4_recordState l g x a M f n) L_X4_X4_recordState (⟨⟨Nat.le_of_ble_eq_true rfl, Nat.le_of_ble_eq_true rfl⟩, ⟨rfl, rfl⟩, ⟨Nat.le_of_ble_eq_true rfl, Nat.le_of_ble_eq_true rfl⟩⟩) (k_recv hK hM 0 rfl rfl) (hXW) rfl hl.1 rfl (Nat.le_of_ble_eq_true rfl) dX4_setBoilerPressure_16) hS (fun _ h => h) (fun H_1 locs_2 hQ_3 hz_ hk_5 hS_4 => ?_)
    obtain ⟨f6, ef6⟩ : ∃ z, z = s_rec f n := ⟨_, rfl⟩
    rw [← ef6] at hQ_3
    obtain ⟨hn6, hm6, hx06, d6, r6, hs6, w06, hM6, hD6, hR6, hB6⟩ := hQ_3
    obtain ⟨ws6, ews6⟩ := hR6.trial
    subst ews6
    have hXW6 := XW.mk hn6 hm6 hx06 hM6 hD6 hR6 hB6
    have hF6 : KF M H_1 H_1 := KF.rf
    refine lv_aload_n hx hb dX4_setBoilerPressure_19 rfl (lvG hl rfl) ?_
    refine va_get (D := g.1) (ci := 4) (v := .ref (a 0)) (C := RX4) (T := TX4) (N := 7) hx hb hts i_X4 hown hK.1 hM6 0 rfl rfl 0 (by decide) (hts _ w_175) (fun _ h9 => h9) rfl dX4_setBoilerPressure_20 ?_
    refine va_get (D := g.1) (ci := 3) (v := .int (f6 4)) (C := RX3) (T := TX3) (N := 13) hx hb hts i_X3 hown hK.1 hM6 2 rfl rfl 4 (by decide) (hts _ w_131) (fun _ h9 => h9) rfl dX4_setBoilerPressure_23 ?_
    refine lv_istore_n (lv' := [(2, .int (f6 4)), (0, .ref (x 0)), (1, .int (v))]) hx hb dX4_setBoilerPressure_26 rfl hl (by decide) rfl (fun ls hl => ?_)
    refine lv_aload_n hx hb dX4_setBoilerPressure_27 rfl (lvG hl rfl) ?_
    refine va_get (D := g.1) (ci := 4) (v := .ref (a 0)) (C := RX4) (T := TX4) (N := 7) hx hb hts i_X4 hown hK.1 hM6 0 rfl rfl 0 (by decide) (hts _ w_175) (fun _ h9 => h9) rfl dX4_setBoilerPressure_28 ?_
    refine lv_iload_n hx hb dX4_setBoilerPressure_31 rfl (lvG hl rfl) ?_
    refine k_putO (ci := 3) (v := .int (v)) (ty := .int) (C := RX3) (T := TX3) (N := 13) hC hK i_X3 tyX3 tyX3_ok nmX3 hM6 hD6 hS_4 2 rfl rfl 4 (by decide) w_131 (fun _ h9 => h9) rfl (by decide +kernel) rfl rfl (Nat.le_of_ble_eq_true rfl) dX4_setBoilerPressure_32 (fun H_7 locs_8 hP_9 hD_10 hS_11 hz_12 hk_13 => ?_)
    have hP_9 : va_P g.1 kCl ([(x 0, .inr (4, [.ref (a 0), .ref (x 1), .int (nI (s_recn n)), .ref (x 2), .ref (x 5), .ref (x 6), .ref (x 7)])), (x 1, .inl (g.2.2.2, 4, .inr (.inr (.inr (.inr hs6))))), (a 0, .inr (3, [.int (f6 0), .int (f6 1), .int (f6 2), .int (f6 3), .int (v), .int (f6 5), .int (f6 6), .int (f6 7), .ref (a 1), .ref (a 2), .ref (a 3), .ref (a 6), .int (f6 61)])), (a 6, .inl (g.2.2.1, 10, .inr (.inr (.inr (.inr r6))))), (a 1, .inr (2, [.int (f6 8), .int (f6 9), .int (f6 10), .int (f6 11)])), (a 2, .inr (2, [.int (f6 12), .int (f6 13), .int (f6 14), .int (f6 15)])), (a 3, .inr (1, [.int (f6 16), .int (f6 17), .int (f6 18), .ref (a 4), .ref (a 5)])), cI g (a 4) 21 d6, cI g (a 5) 21 ((fun k => d6 (21 + k))), (x 2, .inr (0, [.int (nI 0), .int (nI 0), .ref (x 3), .ref (x 4)]))] ++ ws6) H_7 := hP_9
    have hD_10 : va_D (M) ([(x 0, .inr (4, [.ref (a 0), .ref (x 1), .int (nI (s_recn n)), .ref (x 2), .ref (x 5), .ref (x 6), .ref (x 7)])), (x 1, .inl (g.2.2.2, 4, .inr (.inr (.inr (.inr hs6))))), (a 0, .inr (3, [.int (f6 0), .int (f6 1), .int (f6 2), .int (f6 3), .int (v), .int (f6 5), .int (f6 6), .int (f6 7), .ref (a 1), .ref (a 2), .ref (a 3), .ref (a 6), .int (f6 61)])), (a 6, .inl (g.2.2.1, 10, .inr (.inr (.inr (.inr r6))))), (a 1, .inr (2, [.int (f6 8), .int (f6 9), .int (f6 10), .int (f6 11)])), (a 2, .inr (2, [.int (f6 12), .int (f6 13), .int (f6 14), .int (f6 15)])), (a 3, .inr (1, [.int (f6 16), .int (f6 17), .int (f6 18), .ref (a 4), .ref (a 5)])), cI g (a 4) 21 d6, cI g (a 5) 21 ((fun k => d6 (21 + k))), (x 2, .inr (0, [.int (nI 0), .int (nI 0), .ref (x 3), .ref (x 4)]))] ++ ws6) := hD_10
    have hF_14 := KF.put hF6 hz_12 hk_13 (hD_10.2 2 _ rfl)
    refine lv_iload_n hx hb dX4_setBoilerPressure_35 rfl (lvG hl rfl) ?_
    exact k_iretM hC hr hlk hS_11 dX4_setBoilerPressure_36 (put_t zc9 ef6 (XW.close (ws := cTr x :: ws6) (d' := d6) (r' := r6) hXW6 hP_9 hD_10 hR6 hF_14.2 (fun j h1 h2 => upd_ne _ _ _ _ (by omega)) ((hB6.kept (fun q h c => hF_14.2 q h (fun z => c (Or.inl z)))).congr16 (fun j h1 h2 => (upd_ne _ _ _ _ (by omega)).symm))))
  · refine lv_ldc (v := (-2000000001 : Int32)) hx hb hown (hts _ w_204) dX4_setBoilerPressure_12 ?_
    exact k_iretM hC hr hlk hS dX4_setBoilerPressure_14 (put_f zc9 hXW)
set_option maxHeartbeats 4000000 in
set_option maxRecDepth 100000 in
theorem c_X4_setBackPressure (l : Launch) (g : kG) (x : Nat → Nat) (a : Nat → Nat) (M : Nat → Prop) (f : Nat → Int32) (n : Nat) (v : Int32) : MI l yX4_setBackPressure cX4_setBackPressure 3 (some .int) (rr 4 103) [.ref (x 0), .int (v)] ((XW g x a M f n)) g 0 0 (M) (fun r H1 => r = s_putr f n 5 (nI 10 ≤ v ∧ v ≤ nI 99) ∧ XW g x a M (s_putf f n 5 (nI 10 ≤ v ∧ v ≤ nI 99) v) (s_putn n (nI 10 ≤ v ∧ v ≤ nI 99)) H1) := by
  refine kOf (by decide) (Nat.le_of_ble_eq_true rfl) (fun p e s m below meth c ls hC hr hlk hin hK hP hl => ?_)
  have hx := hC.1
  have hb := hC.2.1
  have hml := hC.2.2.1
  have hown := hC.2.2.2.1
  have hts := hC.2.2.2.2
  have hl : lv_has ls 3 [(0, .ref (x 0)), (1, .int (v))] := hl
  have hXW := hP
  obtain ⟨hn4, hm, hx0, d, r, hs, w0, hM, hD, hR, hB⟩ := hXW
  obtain ⟨ws, ews⟩ := hR.trial
  subst ews
  have hXW : XW g x a M f n s.heap := XW.mk hn4 hm hx0 hM hD hR hB
  have hF : KF M s.heap s.heap := KF.rf
  have hS : va_S (M) s.heap s.heap [] := va_S.rf
  refine lv_iload_n hx hb dX4_setBackPressure_0 rfl (lvG hl rfl) ?_
  refine lv_bipush (v := nI 10) hx hb dX4_setBackPressure_1 (by decide) ?_
  refine lv_bipush (v := nI 99) hx hb dX4_setBackPressure_3 (by decide) ?_
  refine k_callPI (k_goS (rest := []) hC hK (c_X4_isWithin l g v (nI 10) (nI 99)) L_X4_X4_isWithin (⟨⟨Nat.le_of_ble_eq_true rfl, Nat.le_of_ble_eq_true rfl⟩, ⟨rfl, rfl⟩, ⟨Nat.le_of_ble_eq_true rfl, Nat.le_of_ble_eq_true rfl⟩⟩) (trivial) rfl hl.1 rfl (Nat.le_of_ble_eq_true rfl) dX4_setBackPressure_5) ?_
  refine b_ifne (tgt := 14) hC dX4_setBackPressure_8 (by decide) (fun zc8 => ?_) (fun zc8 => ?_)
  · refine lv_aload_n hx hb dX4_setBackPressure_14 rfl (lvG hl rfl) ?_
    refine k_callMV0 (k_goV (rest := []) hC hK (c_X4_recordState l g x a M f n) L_X4_X4_recordState (⟨⟨Nat.le_of_ble_eq_true rfl, Nat.le_of_ble_eq_true rfl⟩, ⟨rfl, rfl⟩, ⟨Nat.le_of_ble_eq_true rfl, Nat.le_of_ble_eq_true rfl⟩⟩) (k_recv hK hM 0 rfl rfl) (hXW) rfl hl.1 rfl (Nat.le_of_ble_eq_true rfl) dX4_setBackPressure_15) hS (fun _ h => h) (fun H_1 locs_2 hQ_3 hz_ hk_5 hS_4 => ?_)
    obtain ⟨f6, ef6⟩ : ∃ z, z = s_rec f n := ⟨_, rfl⟩
    rw [← ef6] at hQ_3
    obtain ⟨hn6, hm6, hx06, d6, r6, hs6, w06, hM6, hD6, hR6, hB6⟩ := hQ_3
    obtain ⟨ws6, ews6⟩ := hR6.trial
    subst ews6
    have hXW6 := XW.mk hn6 hm6 hx06 hM6 hD6 hR6 hB6
    have hF6 : KF M H_1 H_1 := KF.rf
    refine lv_aload_n hx hb dX4_setBackPressure_18 rfl (lvG hl rfl) ?_
    refine va_get (D := g.1) (ci := 4) (v := .ref (a 0)) (C := RX4) (T := TX4) (N := 7) hx hb hts i_X4 hown hK.1 hM6 0 rfl rfl 0 (by decide) (hts _ w_175) (fun _ h9 => h9) rfl dX4_setBackPressure_19 ?_
    refine va_get (D := g.1) (ci := 3) (v := .int (f6 5)) (C := RX3) (T := TX3) (N := 13) hx hb hts i_X3 hown hK.1 hM6 2 rfl rfl 5 (by decide) (hts _ w_133) (fun _ h9 => h9) rfl dX4_setBackPressure_22 ?_
    refine lv_istore_n (lv' := [(2, .int (f6 5)), (0, .ref (x 0)), (1, .int (v))]) hx hb dX4_setBackPressure_25 rfl hl (by decide) rfl (fun ls hl => ?_)
    refine lv_aload_n hx hb dX4_setBackPressure_26 rfl (lvG hl rfl) ?_
    refine va_get (D := g.1) (ci := 4) (v := .ref (a 0)) (C := RX4) (T := TX4) (N := 7) hx hb hts i_X4 hown hK.1 hM6 0 rfl rfl 0 (by decide) (hts _ w_175) (fun _ h9 => h9) rfl dX4_setBackPressure_27 ?_
    refine lv_iload_n hx hb dX4_setBackPressure_30 rfl (lvG hl rfl) ?_
    refine k_putO (ci := 3) (v := .int (v)) (ty := .int) (C := RX3) (T := TX3) (N := 13) hC hK i_X3 tyX3 tyX3_ok nmX3 hM6 hD6 hS_4 2 rfl rfl 5 (by decide) w_133 (fun _ h9 => h9) rfl (by decide +kernel) rfl rfl (Nat.le_of_ble_eq_true rfl) dX4_setBackPressure_31 (fun H_7 locs_8 hP_9 hD_10 hS_11 hz_12 hk_13 => ?_)
    have hP_9 : va_P g.1 kCl ([(x 0, .inr (4, [.ref (a 0), .ref (x 1), .int (nI (s_recn n)), .ref (x 2), .ref (x 5), .ref (x 6), .ref (x 7)])), (x 1, .inl (g.2.2.2, 4, .inr (.inr (.inr (.inr hs6))))), (a 0, .inr (3, [.int (f6 0), .int (f6 1), .int (f6 2), .int (f6 3), .int (f6 4), .int (v), .int (f6 6), .int (f6 7), .ref (a 1), .ref (a 2), .ref (a 3), .ref (a 6), .int (f6 61)])), (a 6, .inl (g.2.2.1, 10, .inr (.inr (.inr (.inr r6))))), (a 1, .inr (2, [.int (f6 8), .int (f6 9), .int (f6 10), .int (f6 11)])), (a 2, .inr (2, [.int (f6 12), .int (f6 13), .int (f6 14), .int (f6 15)])), (a 3, .inr (1, [.int (f6 16), .int (f6 17), .int (f6 18), .ref (a 4), .ref (a 5)])), cI g (a 4) 21 d6, cI g (a 5) 21 ((fun k => d6 (21 + k))), (x 2, .inr (0, [.int (nI 0), .int (nI 0), .ref (x 3), .ref (x 4)]))] ++ ws6) H_7 := hP_9
    have hD_10 : va_D (M) ([(x 0, .inr (4, [.ref (a 0), .ref (x 1), .int (nI (s_recn n)), .ref (x 2), .ref (x 5), .ref (x 6), .ref (x 7)])), (x 1, .inl (g.2.2.2, 4, .inr (.inr (.inr (.inr hs6))))), (a 0, .inr (3, [.int (f6 0), .int (f6 1), .int (f6 2), .int (f6 3), .int (f6 4), .int (v), .int (f6 6), .int (f6 7), .ref (a 1), .ref (a 2), .ref (a 3), .ref (a 6), .int (f6 61)])), (a 6, .inl (g.2.2.1, 10, .inr (.inr (.inr (.inr r6))))), (a 1, .inr (2, [.int (f6 8), .int (f6 9), .int (f6 10), .int (f6 11)])), (a 2, .inr (2, [.int (f6 12), .int (f6 13), .int (f6 14), .int (f6 15)])), (a 3, .inr (1, [.int (f6 16), .int (f6 17), .int (f6 18), .ref (a 4), .ref (a 5)])), cI g (a 4) 21 d6, cI g (a 5) 21 ((fun k => d6 (21 + k))), (x 2, .inr (0, [.int (nI 0), .int (nI 0), .ref (x 3), .ref (x 4)]))] ++ ws6) := hD_10
    have hF_14 := KF.put hF6 hz_12 hk_13 (hD_10.2 2 _ rfl)
    refine lv_iload_n hx hb dX4_setBackPressure_34 rfl (lvG hl rfl) ?_
    exact k_iretM hC hr hlk hS_11 dX4_setBackPressure_35 (put_t zc8 ef6 (XW.close (ws := cTr x :: ws6) (d' := d6) (r' := r6) hXW6 hP_9 hD_10 hR6 hF_14.2 (fun j h1 h2 => upd_ne _ _ _ _ (by omega)) ((hB6.kept (fun q h c => hF_14.2 q h (fun z => c (Or.inl z)))).congr16 (fun j h1 h2 => (upd_ne _ _ _ _ (by omega)).symm))))
  · refine lv_ldc (v := (-2000000001 : Int32)) hx hb hown (hts _ w_204) dX4_setBackPressure_11 ?_
    exact k_iretM hC hr hlk hS dX4_setBackPressure_13 (put_f zc8 hXW)
theorem se_t {g : kG} {x a : Nat → Nat} {M : Nat → Prop} {f f1 : Nat → Int32} {n : Nat} {b t : Int32} {H : Heap} (h1 : nI 1 ≤ b ∧ b ≤ nI 100) (h2 : nI 1 ≤ t ∧ t ≤ nI 50) (ef : f1 = s_rec f n) (hX : XW g x a M (upd (upd f1 6 b) 7 t) (s_recn n) H) : nI 100 * f1 6 + f1 7 = s_seR f n b t ∧ XW g x a M (s_seF f n b t) (s_seN n b t) H := by
  subst ef
  unfold s_seR s_seF s_seN
  rw [if_pos ⟨h1, h2⟩, if_pos ⟨h1, h2⟩, if_pos ⟨h1, h2⟩]
  exact ⟨rfl, hX⟩
theorem se_f {g : kG} {x a : Nat → Nat} {M : Nat → Prop} {f : Nat → Int32} {n : Nat} {b t : Int32} {H : Heap} (h : ¬ ((nI 1 ≤ b ∧ b ≤ nI 100) ∧ (nI 1 ≤ t ∧ t ≤ nI 50))) (hX : XW g x a M f n H) : cINV = s_seR f n b t ∧ XW g x a M (s_seF f n b t) (s_seN n b t) H := by
  unfold s_seR s_seF s_seN
  rw [if_neg h, if_neg h, if_neg h]
  exact ⟨rfl, hX⟩
theorem pa_en {f1 : Nat → Int32} {en : Int32} (h : nI 0 ≤ en ∧ en ≤ nI 1) : (if en = nI 0 then f1 1 else f1 2) = f1 (s_plPA en) := by
  unfold s_plPA
  rcases (end_iff en).mp h with e | e
  · rw [if_pos e, if_neg (by rw [e]; decide)]
  · rw [if_neg (by rw [e]; decide), if_pos e]
theorem pl_0 {en : Int32} (h : en = nI 0) : s_plPA en = 1 := by subst h; decide
theorem pl_1 {en : Int32} (hE : nI 0 ≤ en ∧ en ≤ nI 1) (h : ¬ en = nI 0) : s_plPA en = 2 := by
  rcases (end_iff en).mp hE with e | e
  · exact absurd e h
  · subst e; decide
theorem sv_t {g : kG} {x a : Nat → Nat} {M : Nat → Prop} {f f1 : Nat → Int32} {n j : Nat} {en va vc vr vm : Int32} {H : Heap} (h : s_okV en va vc vr vm) (hj : en.toNatClampNeg = j) (ef : f1 = s_rec f n) (hX : XW g x a M (s_svU f1 j va vc vr vm) (s_recn n) H) : nI 0 = s_svR en va vc vr vm ∧ XW g x a M (s_svF f n en va vc vr vm) (s_svN n en va vc vr vm) H := by
  subst ef
  unfold s_svR s_svF s_svN
  rw [if_pos h, if_pos h, if_pos h, hj]
  exact ⟨rfl, hX⟩
theorem sv_f {g : kG} {x a : Nat → Nat} {M : Nat → Prop} {f : Nat → Int32} {n : Nat} {en va vc vr vm : Int32} {H : Heap} (h : ¬ s_okV en va vc vr vm) (hX : XW g x a M f n H) : cINV = s_svR en va vc vr vm ∧ XW g x a M (s_svF f n en va vc vr vm) (s_svN n en va vc vr vm) H := by
  unfold s_svR s_svF s_svN
  rw [if_neg h, if_neg h, if_neg h]
  exact ⟨rfl, hX⟩
theorem svU_hi {f : Nat → Int32} {j k : Nat} {va vc vr vm : Int32} (hj : j ≤ 1) (hk : 16 ≤ k) : s_svU f j va vc vr vm k = f k := by
  unfold s_svU
  rw [upd_ne _ _ _ _ (by omega), upd_ne _ _ _ _ (by omega), upd_ne _ _ _ _ (by omega), upd_ne _ _ _ _ (by omega)]
theorem sv_l0 {g : kG} {x a : Nat → Nat} {n : Nat} {f d : Nat → Int32} {r hs : Nat → Option Nat} {va vc vr vm : Int32} {z : va_W} : cM x (a 0) n :: cH g (x 1) hs :: cS a f :: cR g (a 6) r :: cE (a 1) va vc vr vm :: cE (a 2) (f 12) (f 13) (f 14) (f 15) :: cD a f :: cI g (a 4) 21 d :: cI g (a 5) 21 (fun k => d (21 + k)) :: z = wN g x a n (s_svU f 0 va vc vr vm) d r hs ++ z := rfl
theorem sv_l1 {g : kG} {x a : Nat → Nat} {n : Nat} {f d : Nat → Int32} {r hs : Nat → Option Nat} {va vc vr vm : Int32} {z : va_W} : cM x (a 0) n :: cH g (x 1) hs :: cS a f :: cR g (a 6) r :: cE (a 1) (f 8) (f 9) (f 10) (f 11) :: cE (a 2) va vc vr vm :: cD a f :: cI g (a 4) 21 d :: cI g (a 5) 21 (fun k => d (21 + k)) :: z = wN g x a n (s_svU f 1 va vc vr vm) d r hs ++ z := rfl
set_option maxHeartbeats 4000000 in
set_option maxRecDepth 100000 in
theorem c_X4_setFinding (l : Launch) (g : kG) (x : Nat → Nat) (a : Nat → Nat) (M : Nat → Prop) (f : Nat → Int32) (n : Nat) (zb : Int32) (zt : Int32) : MI l yX4_setFinding cX4_setFinding 4 (some .int) (rr 4 103) [.ref (x 0), .int (zb), .int (zt)] ((XW g x a M f n)) g 0 0 (M) (fun r H1 => r = s_seR f n zb zt ∧ XW g x a M (s_seF f n zb zt) (s_seN n zb zt) H1) := by
  refine kOf (by decide) (Nat.le_of_ble_eq_true rfl) (fun p e s m below meth c ls hC hr hlk hin hK hP hl => ?_)
  have hx := hC.1
  have hb := hC.2.1
  have hml := hC.2.2.1
  have hown := hC.2.2.2.1
  have hts := hC.2.2.2.2
  have hl : lv_has ls 4 [(0, .ref (x 0)), (1, .int (zb)), (2, .int (zt))] := hl
  have hXW := hP
  obtain ⟨hn4, hm, hx0, d, r, hs, w0, hM, hD, hR, hB⟩ := hXW
  obtain ⟨ws, ews⟩ := hR.trial
  subst ews
  have hXW : XW g x a M f n s.heap := XW.mk hn4 hm hx0 hM hD hR hB
  have hF : KF M s.heap s.heap := KF.rf
  have hS : va_S (M) s.heap s.heap [] := va_S.rf
  refine lv_iload_n hx hb dX4_setFinding_0 rfl (lvG hl rfl) ?_
  refine lv_iconst (v := nI 1) hx hb dX4_setFinding_1 (by decide) ?_
  refine lv_bipush (v := nI 100) hx hb dX4_setFinding_2 (by decide) ?_
  refine k_callPI (k_goS (rest := []) hC hK (c_X4_isWithin l g zb (nI 1) (nI 100)) L_X4_X4_isWithin (⟨⟨Nat.le_of_ble_eq_true rfl, Nat.le_of_ble_eq_true rfl⟩, ⟨rfl, rfl⟩, ⟨Nat.le_of_ble_eq_true rfl, Nat.le_of_ble_eq_true rfl⟩⟩) (trivial) rfl hl.1 rfl (Nat.le_of_ble_eq_true rfl) dX4_setFinding_4) ?_
  refine b_ifeq (tgt := 20) hC dX4_setFinding_7 (by decide) (fun zc7 => ?_) (fun zc7 => ?_)
  · refine lv_ldc (v := (-2000000001 : Int32)) hx hb hown (hts _ w_204) dX4_setFinding_20 ?_
    exact k_iretM hC hr hlk hS dX4_setFinding_22 (by first | exact se_f (fun q => zc7 q.1) hXW | exact se_f (fun q => zc17 q.2) hXW)
  · refine lv_iload_n hx hb dX4_setFinding_10 rfl (lvG hl rfl) ?_
    refine lv_iconst (v := nI 1) hx hb dX4_setFinding_11 (by decide) ?_
    refine lv_bipush (v := nI 50) hx hb dX4_setFinding_12 (by decide) ?_
    refine k_callPI (k_goS (rest := []) hC hK (c_X4_isWithin l g zt (nI 1) (nI 50)) L_X4_X4_isWithin (⟨⟨Nat.le_of_ble_eq_true rfl, Nat.le_of_ble_eq_true rfl⟩, ⟨rfl, rfl⟩, ⟨Nat.le_of_ble_eq_true rfl, Nat.le_of_ble_eq_true rfl⟩⟩) (trivial) rfl hl.1 rfl (Nat.le_of_ble_eq_true rfl) dX4_setFinding_14) ?_
    refine b_ifne (tgt := 23) hC dX4_setFinding_17 (by decide) (fun zc17 => ?_) (fun zc17 => ?_)
    · refine lv_aload_n hx hb dX4_setFinding_23 rfl (lvG hl rfl) ?_
      refine k_callMV0 (k_goV (rest := []) hC hK (c_X4_recordState l g x a M f n) L_X4_X4_recordState (⟨⟨Nat.le_of_ble_eq_true rfl, Nat.le_of_ble_eq_true rfl⟩, ⟨rfl, rfl⟩, ⟨Nat.le_of_ble_eq_true rfl, Nat.le_of_ble_eq_true rfl⟩⟩) (k_recv hK hM 0 rfl rfl) (hXW) rfl hl.1 rfl (Nat.le_of_ble_eq_true rfl) dX4_setFinding_24) hS (fun _ h => h) (fun H_1 locs_2 hQ_3 hz_ hk_5 hS_4 => ?_)
      obtain ⟨f6, ef6⟩ : ∃ z, z = s_rec f n := ⟨_, rfl⟩
      rw [← ef6] at hQ_3
      obtain ⟨hn6, hm6, hx06, d6, r6, hs6, w06, hM6, hD6, hR6, hB6⟩ := hQ_3
      obtain ⟨ws6, ews6⟩ := hR6.trial
      subst ews6
      have hXW6 := XW.mk hn6 hm6 hx06 hM6 hD6 hR6 hB6
      have hF6 : KF M H_1 H_1 := KF.rf
      refine lv_bipush (v := nI 100) hx hb dX4_setFinding_27 (by decide) ?_
      refine lv_aload_n hx hb dX4_setFinding_29 rfl (lvG hl rfl) ?_
      refine va_get (D := g.1) (ci := 4) (v := .ref (a 0)) (C := RX4) (T := TX4) (N := 7) hx hb hts i_X4 hown hK.1 hM6 0 rfl rfl 0 (by decide) (hts _ w_175) (fun _ h9 => h9) rfl dX4_setFinding_30 ?_
      refine va_get (D := g.1) (ci := 3) (v := .int (f6 6)) (C := RX3) (T := TX3) (N := 13) hx hb hts i_X3 hown hK.1 hM6 2 rfl rfl 6 (by decide) (hts _ w_135) (fun _ h9 => h9) rfl dX4_setFinding_33 ?_
      refine lv_imul hx hb dX4_setFinding_36 ?_
      refine lv_aload_n hx hb dX4_setFinding_37 rfl (lvG hl rfl) ?_
      refine va_get (D := g.1) (ci := 4) (v := .ref (a 0)) (C := RX4) (T := TX4) (N := 7) hx hb hts i_X4 hown hK.1 hM6 0 rfl rfl 0 (by decide) (hts _ w_175) (fun _ h9 => h9) rfl dX4_setFinding_38 ?_
      refine va_get (D := g.1) (ci := 3) (v := .int (f6 7)) (C := RX3) (T := TX3) (N := 13) hx hb hts i_X3 hown hK.1 hM6 2 rfl rfl 7 (by decide) (hts _ w_137) (fun _ h9 => h9) rfl dX4_setFinding_41 ?_
      refine lv_iadd hx hb dX4_setFinding_44 ?_
      refine lv_istore_n (lv' := [(3, .int (((nI 100) * (f6 6)) + (f6 7))), (0, .ref (x 0)), (1, .int (zb)), (2, .int (zt))]) hx hb dX4_setFinding_45 rfl hl (by decide) rfl (fun ls hl => ?_)
      refine lv_aload_n hx hb dX4_setFinding_46 rfl (lvG hl rfl) ?_
      refine va_get (D := g.1) (ci := 4) (v := .ref (a 0)) (C := RX4) (T := TX4) (N := 7) hx hb hts i_X4 hown hK.1 hM6 0 rfl rfl 0 (by decide) (hts _ w_175) (fun _ h9 => h9) rfl dX4_setFinding_47 ?_
      refine lv_iload_n hx hb dX4_setFinding_50 rfl (lvG hl rfl) ?_
      refine k_putO (ci := 3) (v := .int (zb)) (ty := .int) (C := RX3) (T := TX3) (N := 13) hC hK i_X3 tyX3 tyX3_ok nmX3 hM6 hD6 hS_4 2 rfl rfl 6 (by decide) w_135 (fun _ h9 => h9) rfl (by decide +kernel) rfl rfl (Nat.le_of_ble_eq_true rfl) dX4_setFinding_51 (fun H_7 locs_8 hP_9 hD_10 hS_11 hz_12 hk_13 => ?_)
      have hP_9 : va_P g.1 kCl ([(x 0, .inr (4, [.ref (a 0), .ref (x 1), .int (nI (s_recn n)), .ref (x 2), .ref (x 5), .ref (x 6), .ref (x 7)])), (x 1, .inl (g.2.2.2, 4, .inr (.inr (.inr (.inr hs6))))), (a 0, .inr (3, [.int (f6 0), .int (f6 1), .int (f6 2), .int (f6 3), .int (f6 4), .int (f6 5), .int (zb), .int (f6 7), .ref (a 1), .ref (a 2), .ref (a 3), .ref (a 6), .int (f6 61)])), (a 6, .inl (g.2.2.1, 10, .inr (.inr (.inr (.inr r6))))), (a 1, .inr (2, [.int (f6 8), .int (f6 9), .int (f6 10), .int (f6 11)])), (a 2, .inr (2, [.int (f6 12), .int (f6 13), .int (f6 14), .int (f6 15)])), (a 3, .inr (1, [.int (f6 16), .int (f6 17), .int (f6 18), .ref (a 4), .ref (a 5)])), cI g (a 4) 21 d6, cI g (a 5) 21 ((fun k => d6 (21 + k))), (x 2, .inr (0, [.int (nI 0), .int (nI 0), .ref (x 3), .ref (x 4)]))] ++ ws6) H_7 := hP_9
      have hD_10 : va_D (M) ([(x 0, .inr (4, [.ref (a 0), .ref (x 1), .int (nI (s_recn n)), .ref (x 2), .ref (x 5), .ref (x 6), .ref (x 7)])), (x 1, .inl (g.2.2.2, 4, .inr (.inr (.inr (.inr hs6))))), (a 0, .inr (3, [.int (f6 0), .int (f6 1), .int (f6 2), .int (f6 3), .int (f6 4), .int (f6 5), .int (zb), .int (f6 7), .ref (a 1), .ref (a 2), .ref (a 3), .ref (a 6), .int (f6 61)])), (a 6, .inl (g.2.2.1, 10, .inr (.inr (.inr (.inr r6))))), (a 1, .inr (2, [.int (f6 8), .int (f6 9), .int (f6 10), .int (f6 11)])), (a 2, .inr (2, [.int (f6 12), .int (f6 13), .int (f6 14), .int (f6 15)])), (a 3, .inr (1, [.int (f6 16), .int (f6 17), .int (f6 18), .ref (a 4), .ref (a 5)])), cI g (a 4) 21 d6, cI g (a 5) 21 ((fun k => d6 (21 + k))), (x 2, .inr (0, [.int (nI 0), .int (nI 0), .ref (x 3), .ref (x 4)]))] ++ ws6) := hD_10
      have hF_14 := KF.put hF6 hz_12 hk_13 (hD_10.2 2 _ rfl)
      refine lv_aload_n hx hb dX4_setFinding_54 rfl (lvG hl rfl) ?_
      refine va_get (D := g.1) (ci := 4) (v := .ref (a 0)) (C := RX4) (T := TX4) (N := 7) hx hb hts i_X4 hown hK.1 hP_9 0 rfl rfl 0 (by decide) (hts _ w_175) (fun _ h9 => h9) rfl dX4_setFinding_55 ?_
      refine lv_iload_n hx hb dX4_setFinding_58 rfl (lvG hl rfl) ?_
      refine k_putO (ci := 3) (v := .int (zt)) (ty := .int) (C := RX3) (T := TX3) (N := 13) hC hK i_X3 tyX3 tyX3_ok nmX3 hP_9 hD_10 hS_11 2 rfl rfl 7 (by decide) w_137 (fun _ h9 => h9) rfl (by decide +kernel) rfl rfl (Nat.le_of_ble_eq_true rfl) dX4_setFinding_59 (fun H_15 locs_16 hP_17 hD_18 hS_19 hz_20 hk_21 => ?_)
      have hP_17 : va_P g.1 kCl ([(x 0, .inr (4, [.ref (a 0), .ref (x 1), .int (nI (s_recn n)), .ref (x 2), .ref (x 5), .ref (x 6), .ref (x 7)])), (x 1, .inl (g.2.2.2, 4, .inr (.inr (.inr (.inr hs6))))), (a 0, .inr (3, [.int (f6 0), .int (f6 1), .int (f6 2), .int (f6 3), .int (f6 4), .int (f6 5), .int (zb), .int (zt), .ref (a 1), .ref (a 2), .ref (a 3), .ref (a 6), .int (f6 61)])), (a 6, .inl (g.2.2.1, 10, .inr (.inr (.inr (.inr r6))))), (a 1, .inr (2, [.int (f6 8), .int (f6 9), .int (f6 10), .int (f6 11)])), (a 2, .inr (2, [.int (f6 12), .int (f6 13), .int (f6 14), .int (f6 15)])), (a 3, .inr (1, [.int (f6 16), .int (f6 17), .int (f6 18), .ref (a 4), .ref (a 5)])), cI g (a 4) 21 d6, cI g (a 5) 21 ((fun k => d6 (21 + k))), (x 2, .inr (0, [.int (nI 0), .int (nI 0), .ref (x 3), .ref (x 4)]))] ++ ws6) H_15 := hP_17
      have hD_18 : va_D (M) ([(x 0, .inr (4, [.ref (a 0), .ref (x 1), .int (nI (s_recn n)), .ref (x 2), .ref (x 5), .ref (x 6), .ref (x 7)])), (x 1, .inl (g.2.2.2, 4, .inr (.inr (.inr (.inr hs6))))), (a 0, .inr (3, [.int (f6 0), .int (f6 1), .int (f6 2), .int (f6 3), .int (f6 4), .int (f6 5), .int (zb), .int (zt), .ref (a 1), .ref (a 2), .ref (a 3), .ref (a 6), .int (f6 61)])), (a 6, .inl (g.2.2.1, 10, .inr (.inr (.inr (.inr r6))))), (a 1, .inr (2, [.int (f6 8), .int (f6 9), .int (f6 10), .int (f6 11)])), (a 2, .inr (2, [.int (f6 12), .int (f6 13), .int (f6 14), .int (f6 15)])), (a 3, .inr (1, [.int (f6 16), .int (f6 17), .int (f6 18), .ref (a 4), .ref (a 5)])), cI g (a 4) 21 d6, cI g (a 5) 21 ((fun k => d6 (21 + k))), (x 2, .inr (0, [.int (nI 0), .int (nI 0), .ref (x 3), .ref (x 4)]))] ++ ws6) := hD_18
      have hF_22 := KF.put hF_14 hz_20 hk_21 (hD_18.2 2 _ rfl)
      refine lv_iload_n hx hb dX4_setFinding_62 rfl (lvG hl rfl) ?_
      exact k_iretM hC hr hlk hS_19 dX4_setFinding_63 (se_t zc7 zc17 ef6 (XW.close (ws := cTr x :: ws6) (d' := d6) (r' := r6) hXW6 hP_17 hD_18 hR6 hF_22.2 (fun j h1 h2 => by rw [upd_ne _ _ _ _ (by omega), upd_ne _ _ _ _ (by omega)]) ((hB6.kept (fun q h c => hF_22.2 q h (fun z => c (Or.inl z)))).congr16 (fun j h1 h2 => by rw [upd_ne _ _ _ _ (by omega), upd_ne _ _ _ _ (by omega)]))))
    · refine lv_ldc (v := (-2000000001 : Int32)) hx hb hown (hts _ w_204) dX4_setFinding_20 ?_
      exact k_iretM hC hr hlk hS dX4_setFinding_22 (by first | exact se_f (fun q => zc7 q.1) hXW | exact se_f (fun q => zc17 q.2) hXW)
set_option maxHeartbeats 4000000 in
set_option maxRecDepth 100000 in
theorem c_X4_setPistonArea (l : Launch) (g : kG) (x : Nat → Nat) (a : Nat → Nat) (M : Nat → Prop) (f : Nat → Int32) (n : Nat) (en : Int32) (v : Int32) : MI l yX4_setPistonArea cX4_setPistonArea 4 (some .int) (rr 4 103) [.ref (x 0), .int (en), .int (v)] ((XW g x a M f n)) g 0 0 (M) (fun r H1 => r = s_putr f n (s_plPA en) (s_okPA en v) ∧ XW g x a M (s_putf f n (s_plPA en) (s_okPA en v) v) (s_putn n (s_okPA en v)) H1) := by
  refine kOf (by decide) (Nat.le_of_ble_eq_true rfl) (fun p e s m below meth c ls hC hr hlk hin hK hP hl => ?_)
  have hx := hC.1
  have hb := hC.2.1
  have hml := hC.2.2.1
  have hown := hC.2.2.2.1
  have hts := hC.2.2.2.2
  have hl : lv_has ls 4 [(0, .ref (x 0)), (1, .int (en)), (2, .int (v))] := hl
  have hXW := hP
  obtain ⟨hn4, hm, hx0, d, r, hs, w0, hM, hD, hR, hB⟩ := hXW
  obtain ⟨ws, ews⟩ := hR.trial
  subst ews
  have hXW : XW g x a M f n s.heap := XW.mk hn4 hm hx0 hM hD hR hB
  have hF : KF M s.heap s.heap := KF.rf
  have hS : va_S (M) s.heap s.heap [] := va_S.rf
  refine lv_iload_n hx hb dX4_setPistonArea_0 rfl (lvG hl rfl) ?_
  refine k_callPI (k_goS (rest := []) hC hK (c_X4_isEnd l g en) L_X4_X4_isEnd (⟨⟨Nat.le_of_ble_eq_true rfl, Nat.le_of_ble_eq_true rfl⟩, ⟨rfl, rfl⟩, ⟨Nat.le_of_ble_eq_true rfl, Nat.le_of_ble_eq_true rfl⟩⟩) (trivial) rfl hl.1 rfl (Nat.le_of_ble_eq_true rfl) dX4_setPistonArea_1) ?_
  refine b_ifeq (tgt := 18) hC dX4_setPistonArea_4 (by decide) (fun zc4 => ?_) (fun zc4 => ?_)
  · refine lv_ldc (v := (-2000000001 : Int32)) hx hb hown (hts _ w_204) dX4_setPistonArea_18 ?_
    exact k_iretM hC hr hlk hS dX4_setPistonArea_20 (by first | exact put_f (fun q => zc4 q.1) hXW | exact put_f (fun q => zc15 q.2) hXW)
  · refine lv_iload_n hx hb dX4_setPistonArea_7 rfl (lvG hl rfl) ?_
    refine lv_iconst (v := nI 1) hx hb dX4_setPistonArea_8 (by decide) ?_
    refine lv_sipush (v := nI 5000) hx hb dX4_setPistonArea_9 (by decide) ?_
    refine k_callPI (k_goS (rest := []) hC hK (c_X4_isWithin l g v (nI 1) (nI 5000)) L_X4_X4_isWithin (⟨⟨Nat.le_of_ble_eq_true rfl, Nat.le_of_ble_eq_true rfl⟩, ⟨rfl, rfl⟩, ⟨Nat.le_of_ble_eq_true rfl, Nat.le_of_ble_eq_true rfl⟩⟩) (trivial) rfl hl.1 rfl (Nat.le_of_ble_eq_true rfl) dX4_setPistonArea_12) ?_
    refine b_ifne (tgt := 21) hC dX4_setPistonArea_15 (by decide) (fun zc15 => ?_) (fun zc15 => ?_)
    · refine lv_aload_n hx hb dX4_setPistonArea_21 rfl (lvG hl rfl) ?_
      refine k_callMV0 (k_goV (rest := []) hC hK (c_X4_recordState l g x a M f n) L_X4_X4_recordState (⟨⟨Nat.le_of_ble_eq_true rfl, Nat.le_of_ble_eq_true rfl⟩, ⟨rfl, rfl⟩, ⟨Nat.le_of_ble_eq_true rfl, Nat.le_of_ble_eq_true rfl⟩⟩) (k_recv hK hM 0 rfl rfl) (hXW) rfl hl.1 rfl (Nat.le_of_ble_eq_true rfl) dX4_setPistonArea_22) hS (fun _ h => h) (fun H_1 locs_2 hQ_3 hz_ hk_5 hS_4 => ?_)
      obtain ⟨f6, ef6⟩ : ∃ z, z = s_rec f n := ⟨_, rfl⟩
      rw [← ef6] at hQ_3
      obtain ⟨hn6, hm6, hx06, d6, r6, hs6, w06, hM6, hD6, hR6, hB6⟩ := hQ_3
      obtain ⟨ws6, ews6⟩ := hR6.trial
      subst ews6
      have hXW6 := XW.mk hn6 hm6 hx06 hM6 hD6 hR6 hB6
      have hF6 : KF M H_1 H_1 := KF.rf
      refine lv_aload_n hx hb dX4_setPistonArea_25 rfl (lvG hl rfl) ?_
      refine va_get (D := g.1) (ci := 4) (v := .ref (a 0)) (C := RX4) (T := TX4) (N := 7) hx hb hts i_X4 hown hK.1 hM6 0 rfl rfl 0 (by decide) (hts _ w_175) (fun _ h9 => h9) rfl dX4_setPistonArea_26 ?_
      refine lv_iload_n hx hb dX4_setPistonArea_29 rfl (lvG hl rfl) ?_
      refine k_callPI (k_goV (rest := []) hC hK (c_X3_pistonAreaOf l g a f6 en) L_X4_X3_pistonAreaOf (⟨⟨Nat.le_of_ble_eq_true rfl, Nat.le_of_ble_eq_true rfl⟩, ⟨rfl, rfl⟩, ⟨Nat.le_of_ble_eq_true rfl, Nat.le_of_ble_eq_true rfl⟩⟩) (k_recv hK hM6 2 rfl rfl) ((va_P.sub hM6 [2] rfl)) rfl hl.1 rfl (Nat.le_of_ble_eq_true rfl) dX4_setPistonArea_30) ?_
      rw [pa_en zc4]
      refine lv_istore_n (lv' := [(3, .int (f6 (s_plPA en))), (0, .ref (x 0)), (1, .int (en)), (2, .int (v))]) hx hb dX4_setPistonArea_33 rfl hl (by decide) rfl (fun ls hl => ?_)
      refine lv_iload_n hx hb dX4_setPistonArea_34 rfl (lvG hl rfl) ?_
      refine z_if_ne (tgt := 49) hC dX4_setPistonArea_35 (by decide) (fun zc35 => ?_) (fun zc35 => ?_)
      · refine lv_aload_n hx hb dX4_setPistonArea_49 rfl (lvG hl rfl) ?_
        refine va_get (D := g.1) (ci := 4) (v := .ref (a 0)) (C := RX4) (T := TX4) (N := 7) hx hb hts i_X4 hown hK.1 hM6 0 rfl rfl 0 (by decide) (hts _ w_175) (fun _ h9 => h9) rfl dX4_setPistonArea_50 ?_
        refine lv_iload_n hx hb dX4_setPistonArea_53 rfl (lvG hl rfl) ?_
        refine k_putO (ci := 3) (v := .int (v)) (ty := .int) (C := RX3) (T := TX3) (N := 13) hC hK i_X3 tyX3 tyX3_ok nmX3 hM6 hD6 hS_4 2 rfl rfl 2 (by decide) w_127 (fun _ h9 => h9) rfl (by decide +kernel) rfl rfl (Nat.le_of_ble_eq_true rfl) dX4_setPistonArea_54 (fun H_7 locs_8 hP_9 hD_10 hS_11 hz_12 hk_13 => ?_)
        have hP_9 : va_P g.1 kCl ([(x 0, .inr (4, [.ref (a 0), .ref (x 1), .int (nI (s_recn n)), .ref (x 2), .ref (x 5), .ref (x 6), .ref (x 7)])), (x 1, .inl (g.2.2.2, 4, .inr (.inr (.inr (.inr hs6))))), (a 0, .inr (3, [.int (f6 0), .int (f6 1), .int (v), .int (f6 3), .int (f6 4), .int (f6 5), .int (f6 6), .int (f6 7), .ref (a 1), .ref (a 2), .ref (a 3), .ref (a 6), .int (f6 61)])), (a 6, .inl (g.2.2.1, 10, .inr (.inr (.inr (.inr r6))))), (a 1, .inr (2, [.int (f6 8), .int (f6 9), .int (f6 10), .int (f6 11)])), (a 2, .inr (2, [.int (f6 12), .int (f6 13), .int (f6 14), .int (f6 15)])), (a 3, .inr (1, [.int (f6 16), .int (f6 17), .int (f6 18), .ref (a 4), .ref (a 5)])), cI g (a 4) 21 d6, cI g (a 5) 21 ((fun k => d6 (21 + k))), (x 2, .inr (0, [.int (nI 0), .int (nI 0), .ref (x 3), .ref (x 4)]))] ++ ws6) H_7 := hP_9
        have hD_10 : va_D (M) ([(x 0, .inr (4, [.ref (a 0), .ref (x 1), .int (nI (s_recn n)), .ref (x 2), .ref (x 5), .ref (x 6), .ref (x 7)])), (x 1, .inl (g.2.2.2, 4, .inr (.inr (.inr (.inr hs6))))), (a 0, .inr (3, [.int (f6 0), .int (f6 1), .int (v), .int (f6 3), .int (f6 4), .int (f6 5), .int (f6 6), .int (f6 7), .ref (a 1), .ref (a 2), .ref (a 3), .ref (a 6), .int (f6 61)])), (a 6, .inl (g.2.2.1, 10, .inr (.inr (.inr (.inr r6))))), (a 1, .inr (2, [.int (f6 8), .int (f6 9), .int (f6 10), .int (f6 11)])), (a 2, .inr (2, [.int (f6 12), .int (f6 13), .int (f6 14), .int (f6 15)])), (a 3, .inr (1, [.int (f6 16), .int (f6 17), .int (f6 18), .ref (a 4), .ref (a 5)])), cI g (a 4) 21 d6, cI g (a 5) 21 ((fun k => d6 (21 + k))), (x 2, .inr (0, [.int (nI 0), .int (nI 0), .ref (x 3), .ref (x 4)]))] ++ ws6) := hD_10
        have hF_14 := KF.put hF6 hz_12 hk_13 (hD_10.2 2 _ rfl)
        refine lv_iload_n hx hb dX4_setPistonArea_57 rfl (lvG hl rfl) ?_
        exact k_iretM hC hr hlk hS_11 dX4_setPistonArea_58 (put_t ⟨zc4, zc15⟩ ef6 (by first | (rw [pl_0 zc35]; exact (XW.close (ws := cTr x :: ws6) (d' := d6) (r' := r6) hXW6 hP_9 hD_10 hR6 hF_14.2 (fun j h1 h2 => upd_ne _ _ _ _ (by omega)) ((hB6.kept (fun q h c => hF_14.2 q h (fun z => c (Or.inl z)))).congr16 (fun j h1 h2 => (upd_ne _ _ _ _ (by omega)).symm)))) | (rw [pl_1 zc4 zc35]; exact (XW.close (ws := cTr x :: ws6) (d' := d6) (r' := r6) hXW6 hP_9 hD_10 hR6 hF_14.2 (fun j h1 h2 => upd_ne _ _ _ _ (by omega)) ((hB6.kept (fun q h c => hF_14.2 q h (fun z => c (Or.inl z)))).congr16 (fun j h1 h2 => (upd_ne _ _ _ _ (by omega)).symm))))))
      · refine lv_aload_n hx hb dX4_setPistonArea_38 rfl (lvG hl rfl) ?_
        refine va_get (D := g.1) (ci := 4) (v := .ref (a 0)) (C := RX4) (T := TX4) (N := 7) hx hb hts i_X4 hown hK.1 hM6 0 rfl rfl 0 (by decide) (hts _ w_175) (fun _ h9 => h9) rfl dX4_setPistonArea_39 ?_
        refine lv_iload_n hx hb dX4_setPistonArea_42 rfl (lvG hl rfl) ?_
        refine k_putO (ci := 3) (v := .int (v)) (ty := .int) (C := RX3) (T := TX3) (N := 13) hC hK i_X3 tyX3 tyX3_ok nmX3 hM6 hD6 hS_4 2 rfl rfl 1 (by decide) w_125 (fun _ h9 => h9) rfl (by decide +kernel) rfl rfl (Nat.le_of_ble_eq_true rfl) dX4_setPistonArea_43 (fun H_15 locs_16 hP_17 hD_18 hS_19 hz_20 hk_21 => ?_)
        have hP_17 : va_P g.1 kCl ([(x 0, .inr (4, [.ref (a 0), .ref (x 1), .int (nI (s_recn n)), .ref (x 2), .ref (x 5), .ref (x 6), .ref (x 7)])), (x 1, .inl (g.2.2.2, 4, .inr (.inr (.inr (.inr hs6))))), (a 0, .inr (3, [.int (f6 0), .int (v), .int (f6 2), .int (f6 3), .int (f6 4), .int (f6 5), .int (f6 6), .int (f6 7), .ref (a 1), .ref (a 2), .ref (a 3), .ref (a 6), .int (f6 61)])), (a 6, .inl (g.2.2.1, 10, .inr (.inr (.inr (.inr r6))))), (a 1, .inr (2, [.int (f6 8), .int (f6 9), .int (f6 10), .int (f6 11)])), (a 2, .inr (2, [.int (f6 12), .int (f6 13), .int (f6 14), .int (f6 15)])), (a 3, .inr (1, [.int (f6 16), .int (f6 17), .int (f6 18), .ref (a 4), .ref (a 5)])), cI g (a 4) 21 d6, cI g (a 5) 21 ((fun k => d6 (21 + k))), (x 2, .inr (0, [.int (nI 0), .int (nI 0), .ref (x 3), .ref (x 4)]))] ++ ws6) H_15 := hP_17
        have hD_18 : va_D (M) ([(x 0, .inr (4, [.ref (a 0), .ref (x 1), .int (nI (s_recn n)), .ref (x 2), .ref (x 5), .ref (x 6), .ref (x 7)])), (x 1, .inl (g.2.2.2, 4, .inr (.inr (.inr (.inr hs6))))), (a 0, .inr (3, [.int (f6 0), .int (v), .int (f6 2), .int (f6 3), .int (f6 4), .int (f6 5), .int (f6 6), .int (f6 7), .ref (a 1), .ref (a 2), .ref (a 3), .ref (a 6), .int (f6 61)])), (a 6, .inl (g.2.2.1, 10, .inr (.inr (.inr (.inr r6))))), (a 1, .inr (2, [.int (f6 8), .int (f6 9), .int (f6 10), .int (f6 11)])), (a 2, .inr (2, [.int (f6 12), .int (f6 13), .int (f6 14), .int (f6 15)])), (a 3, .inr (1, [.int (f6 16), .int (f6 17), .int (f6 18), .ref (a 4), .ref (a 5)])), cI g (a 4) 21 d6, cI g (a 5) 21 ((fun k => d6 (21 + k))), (x 2, .inr (0, [.int (nI 0), .int (nI 0), .ref (x 3), .ref (x 4)]))] ++ ws6) := hD_18
        have hF_22 := KF.put hF6 hz_20 hk_21 (hD_18.2 2 _ rfl)
        refine lv_goto (tgt := 57) hx hb dX4_setPistonArea_46 (by decide) ?_
        refine lv_iload_n hx hb dX4_setPistonArea_57 rfl (lvG hl rfl) ?_
        exact k_iretM hC hr hlk hS_19 dX4_setPistonArea_58 (put_t ⟨zc4, zc15⟩ ef6 (by first | (rw [pl_0 zc35]; exact (XW.close (ws := cTr x :: ws6) (d' := d6) (r' := r6) hXW6 hP_17 hD_18 hR6 hF_22.2 (fun j h1 h2 => upd_ne _ _ _ _ (by omega)) ((hB6.kept (fun q h c => hF_22.2 q h (fun z => c (Or.inl z)))).congr16 (fun j h1 h2 => (upd_ne _ _ _ _ (by omega)).symm)))) | (rw [pl_1 zc4 zc35]; exact (XW.close (ws := cTr x :: ws6) (d' := d6) (r' := r6) hXW6 hP_17 hD_18 hR6 hF_22.2 (fun j h1 h2 => upd_ne _ _ _ _ (by omega)) ((hB6.kept (fun q h c => hF_22.2 q h (fun z => c (Or.inl z)))).congr16 (fun j h1 h2 => (upd_ne _ _ _ _ (by omega)).symm))))))
    · refine lv_ldc (v := (-2000000001 : Int32)) hx hb hown (hts _ w_204) dX4_setPistonArea_18 ?_
      exact k_iretM hC hr hlk hS dX4_setPistonArea_20 (by first | exact put_f (fun q => zc4 q.1) hXW | exact put_f (fun q => zc15 q.2) hXW)
theorem L_X4_X4_areValves : LnkS RX4 87 yX4_areValves cX4_areValves 4 (some .boolean) 4 := ⟨w_590, w_591, w_25, w_592, ⟨by decide +kernel, by decide +kernel⟩, by decide +kernel⟩
set_option maxHeartbeats 4000000 in
set_option maxRecDepth 100000 in
theorem c_X4_setValves (l : Launch) (g : kG) (x : Nat → Nat) (a : Nat → Nat) (M : Nat → Prop) (f : Nat → Int32) (n : Nat) (en : Int32) (va : Int32) (vc : Int32) (vr : Int32) (vm : Int32) : MI l yX4_setValves cX4_setValves 7 (some .int) (rr 4 103) [.ref (x 0), .int (en), .int (va), .int (vc), .int (vr), .int (vm)] ((XW g x a M f n)) g 0 0 (M) (fun r H1 => r = s_svR en va vc vr vm ∧ XW g x a M (s_svF f n en va vc vr vm) (s_svN n en va vc vr vm) H1) := by
  refine kOf (by decide) (Nat.le_of_ble_eq_true rfl) (fun p e s m below meth c ls hC hr hlk hin hK hP hl => ?_)
  have hx := hC.1
  have hb := hC.2.1
  have hml := hC.2.2.1
  have hown := hC.2.2.2.1
  have hts := hC.2.2.2.2
  have hl : lv_has ls 7 [(0, .ref (x 0)), (1, .int (en)), (2, .int (va)), (3, .int (vc)), (4, .int (vr)), (5, .int (vm))] := hl
  have hXW := hP
  obtain ⟨hn4, hm, hx0, d, r, hs, w0, hM, hD, hR, hB⟩ := hXW
  obtain ⟨ws, ews⟩ := hR.trial
  subst ews
  have hXW : XW g x a M f n s.heap := XW.mk hn4 hm hx0 hM hD hR hB
  have hF : KF M s.heap s.heap := KF.rf
  have hS : va_S (M) s.heap s.heap [] := va_S.rf
  refine lv_iload_n hx hb dX4_setValves_0 rfl (lvG hl rfl) ?_
  refine k_callPI (k_goS (rest := []) hC hK (c_X4_isEnd l g en) L_X4_X4_isEnd (⟨⟨Nat.le_of_ble_eq_true rfl, Nat.le_of_ble_eq_true rfl⟩, ⟨rfl, rfl⟩, ⟨Nat.le_of_ble_eq_true rfl, Nat.le_of_ble_eq_true rfl⟩⟩) (trivial) rfl hl.1 rfl (Nat.le_of_ble_eq_true rfl) dX4_setValves_1) ?_
  refine b_ifeq (tgt := 19) hC dX4_setValves_4 (by decide) (fun zc4 => ?_) (fun zc4 => ?_)
  · refine lv_ldc (v := (-2000000001 : Int32)) hx hb hown (hts _ w_204) dX4_setValves_19 ?_
    exact k_iretM hC hr hlk hS dX4_setValves_21 (by first | exact sv_f (fun q => zc4 q.1.1) hXW | exact sv_f (fun q => zc16 ⟨q.1.2, q.2⟩) hXW)
  · refine lv_iload_n hx hb dX4_setValves_7 rfl (lvG hl rfl) ?_
    refine lv_iload_n hx hb dX4_setValves_8 rfl (lvG hl rfl) ?_
    refine lv_iload hx hb dX4_setValves_9 (lvG hl rfl) ?_
    refine lv_iload hx hb dX4_setValves_11 (lvG hl rfl) ?_
    refine k_callPI (k_goS (rest := []) hC hK (c_X4_areValves l g va vc vr vm) L_X4_X4_areValves (⟨⟨Nat.le_of_ble_eq_true rfl, Nat.le_of_ble_eq_true rfl⟩, ⟨rfl, rfl⟩, ⟨Nat.le_of_ble_eq_true rfl, Nat.le_of_ble_eq_true rfl⟩⟩) (trivial) rfl hl.1 rfl (Nat.le_of_ble_eq_true rfl) dX4_setValves_13) ?_
    refine b_ifne (tgt := 22) hC dX4_setValves_16 (by decide) (fun zc16 => ?_) (fun zc16 => ?_)
    · refine lv_aload_n hx hb dX4_setValves_22 rfl (lvG hl rfl) ?_
      refine k_callMV0 (k_goV (rest := []) hC hK (c_X4_recordState l g x a M f n) L_X4_X4_recordState (⟨⟨Nat.le_of_ble_eq_true rfl, Nat.le_of_ble_eq_true rfl⟩, ⟨rfl, rfl⟩, ⟨Nat.le_of_ble_eq_true rfl, Nat.le_of_ble_eq_true rfl⟩⟩) (k_recv hK hM 0 rfl rfl) (hXW) rfl hl.1 rfl (Nat.le_of_ble_eq_true rfl) dX4_setValves_23) hS (fun _ h => h) (fun H_1 locs_2 hQ_3 hz_ hk_5 hS_4 => ?_)
      obtain ⟨f6, ef6⟩ : ∃ z, z = s_rec f n := ⟨_, rfl⟩
      rw [← ef6] at hQ_3
      obtain ⟨hn6, hm6, hx06, d6, r6, hs6, w06, hM6, hD6, hR6, hB6⟩ := hQ_3
      obtain ⟨ws6, ews6⟩ := hR6.trial
      subst ews6
      have hXW6 := XW.mk hn6 hm6 hx06 hM6 hD6 hR6 hB6
      have hF6 : KF M H_1 H_1 := KF.rf
      obtain ⟨zj, h_zj, ev_zj⟩ := in_nat (by decide) (zc4)
      have e_zj : (en).toNatClampNeg = zj := by rw [ev_zj]; exact nI_clamp (by omega)
      have hl : lv_has ls 7 [(0, .ref (x 0)), (1, .int (nI zj)), (2, .int (va)), (3, .int (vc)), (4, .int (vr)), (5, .int (vm))] := lv_eq hl (by rw [ev_zj])
      rcases (show zj = 0 ∨ zj = 1 by omega) with z0 | z0
      · have hl : lv_has ls 7 [(0, .ref (x 0)), (1, .int (nI 0)), (2, .int (va)), (3, .int (vc)), (4, .int (vr)), (5, .int (vm))] := lv_eq hl (by rw [z0])
        refine lv_aload_n hx hb dX4_setValves_26 rfl (lvG hl rfl) ?_
        refine va_get (D := g.1) (ci := 4) (v := .ref (a 0)) (C := RX4) (T := TX4) (N := 7) hx hb hts i_X4 hown hK.1 hM6 0 rfl rfl 0 (by decide) (hts _ w_175) (fun _ h9 => h9) rfl dX4_setValves_27 ?_
        refine lv_iload_n hx hb dX4_setValves_30 rfl (lvG hl rfl) ?_
        refine k_callPR (k_goV (rest := []) hC hK (c_X3_valvesOf l g a f6 (nI 0)) L_X4_X3_valvesOf (⟨⟨Nat.le_of_ble_eq_true rfl, Nat.le_of_ble_eq_true rfl⟩, ⟨rfl, rfl⟩, ⟨Nat.le_of_ble_eq_true rfl, Nat.le_of_ble_eq_true rfl⟩⟩) (k_recv hK hM6 2 rfl rfl) ((va_P.sub hM6 [2] rfl)) rfl hl.1 rfl (Nat.le_of_ble_eq_true rfl) dX4_setValves_31) ?_
        rw [if_pos (show nI 0 = nI 0 from rfl)]
        refine lv_astore (lv' := [(6, .ref (a 1)), (0, .ref (x 0)), (1, .int (nI 0)), (2, .int (va)), (3, .int (vc)), (4, .int (vr)), (5, .int (vm))]) hx hb dX4_setValves_34 hl (by decide) rfl (fun ls hl => ?_)
        refine lv_aload hx hb dX4_setValves_36 (lvG hl rfl) ?_
        refine lv_iload_n hx hb dX4_setValves_38 rfl (lvG hl rfl) ?_
        refine k_putO (ci := 2) (v := .int (va)) (ty := .int) (C := RX2) (T := TX2) (N := 4) hC hK i_X2 tyX2 tyX2_ok nmX2 hM6 hD6 hS_4 4 rfl rfl 0 (by decide) w_69 (fun _ h9 => h9) rfl (by decide +kernel) rfl rfl (Nat.le_of_ble_eq_true rfl) dX4_setValves_39 (fun H_7 locs_8 hP_9 hD_10 hS_11 hz_12 hk_13 => ?_)
        have hP_9 : va_P g.1 kCl ([(x 0, .inr (4, [.ref (a 0), .ref (x 1), .int (nI (s_recn n)), .ref (x 2), .ref (x 5), .ref (x 6), .ref (x 7)])), (x 1, .inl (g.2.2.2, 4, .inr (.inr (.inr (.inr hs6))))), (a 0, .inr (3, [.int (f6 0), .int (f6 1), .int (f6 2), .int (f6 3), .int (f6 4), .int (f6 5), .int (f6 6), .int (f6 7), .ref (a 1), .ref (a 2), .ref (a 3), .ref (a 6), .int (f6 61)])), (a 6, .inl (g.2.2.1, 10, .inr (.inr (.inr (.inr r6))))), (a 1, .inr (2, [.int (va), .int (f6 9), .int (f6 10), .int (f6 11)])), (a 2, .inr (2, [.int (f6 12), .int (f6 13), .int (f6 14), .int (f6 15)])), (a 3, .inr (1, [.int (f6 16), .int (f6 17), .int (f6 18), .ref (a 4), .ref (a 5)])), cI g (a 4) 21 d6, cI g (a 5) 21 ((fun k => d6 (21 + k))), (x 2, .inr (0, [.int (nI 0), .int (nI 0), .ref (x 3), .ref (x 4)]))] ++ ws6) H_7 := hP_9
        have hD_10 : va_D (M) ([(x 0, .inr (4, [.ref (a 0), .ref (x 1), .int (nI (s_recn n)), .ref (x 2), .ref (x 5), .ref (x 6), .ref (x 7)])), (x 1, .inl (g.2.2.2, 4, .inr (.inr (.inr (.inr hs6))))), (a 0, .inr (3, [.int (f6 0), .int (f6 1), .int (f6 2), .int (f6 3), .int (f6 4), .int (f6 5), .int (f6 6), .int (f6 7), .ref (a 1), .ref (a 2), .ref (a 3), .ref (a 6), .int (f6 61)])), (a 6, .inl (g.2.2.1, 10, .inr (.inr (.inr (.inr r6))))), (a 1, .inr (2, [.int (va), .int (f6 9), .int (f6 10), .int (f6 11)])), (a 2, .inr (2, [.int (f6 12), .int (f6 13), .int (f6 14), .int (f6 15)])), (a 3, .inr (1, [.int (f6 16), .int (f6 17), .int (f6 18), .ref (a 4), .ref (a 5)])), cI g (a 4) 21 d6, cI g (a 5) 21 ((fun k => d6 (21 + k))), (x 2, .inr (0, [.int (nI 0), .int (nI 0), .ref (x 3), .ref (x 4)]))] ++ ws6) := hD_10
        have hF_14 := KF.put hF6 hz_12 hk_13 (hD_10.2 4 _ rfl)
        refine lv_aload hx hb dX4_setValves_42 (lvG hl rfl) ?_
        refine lv_iload_n hx hb dX4_setValves_44 rfl (lvG hl rfl) ?_
        refine k_putO (ci := 2) (v := .int (vc)) (ty := .int) (C := RX2) (T := TX2) (N := 4) hC hK i_X2 tyX2 tyX2_ok nmX2 hP_9 hD_10 hS_11 4 rfl rfl 1 (by decide) w_71 (fun _ h9 => h9) rfl (by decide +kernel) rfl rfl (Nat.le_of_ble_eq_true rfl) dX4_setValves_45 (fun H_15 locs_16 hP_17 hD_18 hS_19 hz_20 hk_21 => ?_)
        have hP_17 : va_P g.1 kCl ([(x 0, .inr (4, [.ref (a 0), .ref (x 1), .int (nI (s_recn n)), .ref (x 2), .ref (x 5), .ref (x 6), .ref (x 7)])), (x 1, .inl (g.2.2.2, 4, .inr (.inr (.inr (.inr hs6))))), (a 0, .inr (3, [.int (f6 0), .int (f6 1), .int (f6 2), .int (f6 3), .int (f6 4), .int (f6 5), .int (f6 6), .int (f6 7), .ref (a 1), .ref (a 2), .ref (a 3), .ref (a 6), .int (f6 61)])), (a 6, .inl (g.2.2.1, 10, .inr (.inr (.inr (.inr r6))))), (a 1, .inr (2, [.int (va), .int (vc), .int (f6 10), .int (f6 11)])), (a 2, .inr (2, [.int (f6 12), .int (f6 13), .int (f6 14), .int (f6 15)])), (a 3, .inr (1, [.int (f6 16), .int (f6 17), .int (f6 18), .ref (a 4), .ref (a 5)])), cI g (a 4) 21 d6, cI g (a 5) 21 ((fun k => d6 (21 + k))), (x 2, .inr (0, [.int (nI 0), .int (nI 0), .ref (x 3), .ref (x 4)]))] ++ ws6) H_15 := hP_17
        have hD_18 : va_D (M) ([(x 0, .inr (4, [.ref (a 0), .ref (x 1), .int (nI (s_recn n)), .ref (x 2), .ref (x 5), .ref (x 6), .ref (x 7)])), (x 1, .inl (g.2.2.2, 4, .inr (.inr (.inr (.inr hs6))))), (a 0, .inr (3, [.int (f6 0), .int (f6 1), .int (f6 2), .int (f6 3), .int (f6 4), .int (f6 5), .int (f6 6), .int (f6 7), .ref (a 1), .ref (a 2), .ref (a 3), .ref (a 6), .int (f6 61)])), (a 6, .inl (g.2.2.1, 10, .inr (.inr (.inr (.inr r6))))), (a 1, .inr (2, [.int (va), .int (vc), .int (f6 10), .int (f6 11)])), (a 2, .inr (2, [.int (f6 12), .int (f6 13), .int (f6 14), .int (f6 15)])), (a 3, .inr (1, [.int (f6 16), .int (f6 17), .int (f6 18), .ref (a 4), .ref (a 5)])), cI g (a 4) 21 d6, cI g (a 5) 21 ((fun k => d6 (21 + k))), (x 2, .inr (0, [.int (nI 0), .int (nI 0), .ref (x 3), .ref (x 4)]))] ++ ws6) := hD_18
        have hF_22 := KF.put hF_14 hz_20 hk_21 (hD_18.2 4 _ rfl)
        refine lv_aload hx hb dX4_setValves_48 (lvG hl rfl) ?_
        refine lv_iload hx hb dX4_setValves_50 (lvG hl rfl) ?_
        refine k_putO (ci := 2) (v := .int (vr)) (ty := .int) (C := RX2) (T := TX2) (N := 4) hC hK i_X2 tyX2 tyX2_ok nmX2 hP_17 hD_18 hS_19 4 rfl rfl 2 (by decide) w_73 (fun _ h9 => h9) rfl (by decide +kernel) rfl rfl (Nat.le_of_ble_eq_true rfl) dX4_setValves_52 (fun H_23 locs_24 hP_25 hD_26 hS_27 hz_28 hk_29 => ?_)
        have hP_25 : va_P g.1 kCl ([(x 0, .inr (4, [.ref (a 0), .ref (x 1), .int (nI (s_recn n)), .ref (x 2), .ref (x 5), .ref (x 6), .ref (x 7)])), (x 1, .inl (g.2.2.2, 4, .inr (.inr (.inr (.inr hs6))))), (a 0, .inr (3, [.int (f6 0), .int (f6 1), .int (f6 2), .int (f6 3), .int (f6 4), .int (f6 5), .int (f6 6), .int (f6 7), .ref (a 1), .ref (a 2), .ref (a 3), .ref (a 6), .int (f6 61)])), (a 6, .inl (g.2.2.1, 10, .inr (.inr (.inr (.inr r6))))), (a 1, .inr (2, [.int (va), .int (vc), .int (vr), .int (f6 11)])), (a 2, .inr (2, [.int (f6 12), .int (f6 13), .int (f6 14), .int (f6 15)])), (a 3, .inr (1, [.int (f6 16), .int (f6 17), .int (f6 18), .ref (a 4), .ref (a 5)])), cI g (a 4) 21 d6, cI g (a 5) 21 ((fun k => d6 (21 + k))), (x 2, .inr (0, [.int (nI 0), .int (nI 0), .ref (x 3), .ref (x 4)]))] ++ ws6) H_23 := hP_25
        have hD_26 : va_D (M) ([(x 0, .inr (4, [.ref (a 0), .ref (x 1), .int (nI (s_recn n)), .ref (x 2), .ref (x 5), .ref (x 6), .ref (x 7)])), (x 1, .inl (g.2.2.2, 4, .inr (.inr (.inr (.inr hs6))))), (a 0, .inr (3, [.int (f6 0), .int (f6 1), .int (f6 2), .int (f6 3), .int (f6 4), .int (f6 5), .int (f6 6), .int (f6 7), .ref (a 1), .ref (a 2), .ref (a 3), .ref (a 6), .int (f6 61)])), (a 6, .inl (g.2.2.1, 10, .inr (.inr (.inr (.inr r6))))), (a 1, .inr (2, [.int (va), .int (vc), .int (vr), .int (f6 11)])), (a 2, .inr (2, [.int (f6 12), .int (f6 13), .int (f6 14), .int (f6 15)])), (a 3, .inr (1, [.int (f6 16), .int (f6 17), .int (f6 18), .ref (a 4), .ref (a 5)])), cI g (a 4) 21 d6, cI g (a 5) 21 ((fun k => d6 (21 + k))), (x 2, .inr (0, [.int (nI 0), .int (nI 0), .ref (x 3), .ref (x 4)]))] ++ ws6) := hD_26
        have hF_30 := KF.put hF_22 hz_28 hk_29 (hD_26.2 4 _ rfl)
        refine lv_aload hx hb dX4_setValves_55 (lvG hl rfl) ?_
        refine lv_iload hx hb dX4_setValves_57 (lvG hl rfl) ?_
        refine k_putO (ci := 2) (v := .int (vm)) (ty := .int) (C := RX2) (T := TX2) (N := 4) hC hK i_X2 tyX2 tyX2_ok nmX2 hP_25 hD_26 hS_27 4 rfl rfl 3 (by decide) w_75 (fun _ h9 => h9) rfl (by decide +kernel) rfl rfl (Nat.le_of_ble_eq_true rfl) dX4_setValves_59 (fun H_31 locs_32 hP_33 hD_34 hS_35 hz_36 hk_37 => ?_)
        have hP_33 : va_P g.1 kCl ([(x 0, .inr (4, [.ref (a 0), .ref (x 1), .int (nI (s_recn n)), .ref (x 2), .ref (x 5), .ref (x 6), .ref (x 7)])), (x 1, .inl (g.2.2.2, 4, .inr (.inr (.inr (.inr hs6))))), (a 0, .inr (3, [.int (f6 0), .int (f6 1), .int (f6 2), .int (f6 3), .int (f6 4), .int (f6 5), .int (f6 6), .int (f6 7), .ref (a 1), .ref (a 2), .ref (a 3), .ref (a 6), .int (f6 61)])), (a 6, .inl (g.2.2.1, 10, .inr (.inr (.inr (.inr r6))))), (a 1, .inr (2, [.int (va), .int (vc), .int (vr), .int (vm)])), (a 2, .inr (2, [.int (f6 12), .int (f6 13), .int (f6 14), .int (f6 15)])), (a 3, .inr (1, [.int (f6 16), .int (f6 17), .int (f6 18), .ref (a 4), .ref (a 5)])), cI g (a 4) 21 d6, cI g (a 5) 21 ((fun k => d6 (21 + k))), (x 2, .inr (0, [.int (nI 0), .int (nI 0), .ref (x 3), .ref (x 4)]))] ++ ws6) H_31 := hP_33
        have hD_34 : va_D (M) ([(x 0, .inr (4, [.ref (a 0), .ref (x 1), .int (nI (s_recn n)), .ref (x 2), .ref (x 5), .ref (x 6), .ref (x 7)])), (x 1, .inl (g.2.2.2, 4, .inr (.inr (.inr (.inr hs6))))), (a 0, .inr (3, [.int (f6 0), .int (f6 1), .int (f6 2), .int (f6 3), .int (f6 4), .int (f6 5), .int (f6 6), .int (f6 7), .ref (a 1), .ref (a 2), .ref (a 3), .ref (a 6), .int (f6 61)])), (a 6, .inl (g.2.2.1, 10, .inr (.inr (.inr (.inr r6))))), (a 1, .inr (2, [.int (va), .int (vc), .int (vr), .int (vm)])), (a 2, .inr (2, [.int (f6 12), .int (f6 13), .int (f6 14), .int (f6 15)])), (a 3, .inr (1, [.int (f6 16), .int (f6 17), .int (f6 18), .ref (a 4), .ref (a 5)])), cI g (a 4) 21 d6, cI g (a 5) 21 ((fun k => d6 (21 + k))), (x 2, .inr (0, [.int (nI 0), .int (nI 0), .ref (x 3), .ref (x 4)]))] ++ ws6) := hD_34
        have hF_38 := KF.put hF_30 hz_36 hk_37 (hD_34.2 4 _ rfl)
        refine lv_iconst (v := nI 0) hx hb dX4_setValves_62 (by decide) ?_
        exact k_iretM hC hr hlk hS_35 dX4_setValves_63 (sv_t ⟨⟨zc4, zc16.1.1, zc16.1.2.1, zc16.1.2.2.1, zc16.1.2.2.2⟩, zc16.2⟩ (by rw [e_zj, z0]) ef6 (XW.close (ws := cTr x :: ws6) (d' := d6) (r' := r6) hXW6 hP_33 hD_34 hR6 hF_38.2 (fun j h1 h2 => svU_hi (by decide) (by omega)) ((hB6.kept (fun q h c => hF_38.2 q h (fun z => c (Or.inl z)))).congr16 (fun j h1 h2 => (svU_hi (by decide) (by omega)).symm))))
      · have hl : lv_has ls 7 [(0, .ref (x 0)), (1, .int (nI 1)), (2, .int (va)), (3, .int (vc)), (4, .int (vr)), (5, .int (vm))] := lv_eq hl (by rw [z0])
        refine lv_aload_n hx hb dX4_setValves_26 rfl (lvG hl rfl) ?_
        refine va_get (D := g.1) (ci := 4) (v := .ref (a 0)) (C := RX4) (T := TX4) (N := 7) hx hb hts i_X4 hown hK.1 hM6 0 rfl rfl 0 (by decide) (hts _ w_175) (fun _ h9 => h9) rfl dX4_setValves_27 ?_
        refine lv_iload_n hx hb dX4_setValves_30 rfl (lvG hl rfl) ?_
        refine k_callPR (k_goV (rest := []) hC hK (c_X3_valvesOf l g a f6 (nI 1)) L_X4_X3_valvesOf (⟨⟨Nat.le_of_ble_eq_true rfl, Nat.le_of_ble_eq_true rfl⟩, ⟨rfl, rfl⟩, ⟨Nat.le_of_ble_eq_true rfl, Nat.le_of_ble_eq_true rfl⟩⟩) (k_recv hK hM6 2 rfl rfl) ((va_P.sub hM6 [2] rfl)) rfl hl.1 rfl (Nat.le_of_ble_eq_true rfl) dX4_setValves_31) ?_
        rw [if_neg (show ¬ nI 1 = nI 0 by decide)]
        refine lv_astore (lv' := [(6, .ref (a 2)), (0, .ref (x 0)), (1, .int (nI 1)), (2, .int (va)), (3, .int (vc)), (4, .int (vr)), (5, .int (vm))]) hx hb dX4_setValves_34 hl (by decide) rfl (fun ls hl => ?_)
        refine lv_aload hx hb dX4_setValves_36 (lvG hl rfl) ?_
        refine lv_iload_n hx hb dX4_setValves_38 rfl (lvG hl rfl) ?_
        refine k_putO (ci := 2) (v := .int (va)) (ty := .int) (C := RX2) (T := TX2) (N := 4) hC hK i_X2 tyX2 tyX2_ok nmX2 hM6 hD6 hS_4 5 rfl rfl 0 (by decide) w_69 (fun _ h9 => h9) rfl (by decide +kernel) rfl rfl (Nat.le_of_ble_eq_true rfl) dX4_setValves_39 (fun H_39 locs_40 hP_41 hD_42 hS_43 hz_44 hk_45 => ?_)
        have hP_41 : va_P g.1 kCl ([(x 0, .inr (4, [.ref (a 0), .ref (x 1), .int (nI (s_recn n)), .ref (x 2), .ref (x 5), .ref (x 6), .ref (x 7)])), (x 1, .inl (g.2.2.2, 4, .inr (.inr (.inr (.inr hs6))))), (a 0, .inr (3, [.int (f6 0), .int (f6 1), .int (f6 2), .int (f6 3), .int (f6 4), .int (f6 5), .int (f6 6), .int (f6 7), .ref (a 1), .ref (a 2), .ref (a 3), .ref (a 6), .int (f6 61)])), (a 6, .inl (g.2.2.1, 10, .inr (.inr (.inr (.inr r6))))), (a 1, .inr (2, [.int (f6 8), .int (f6 9), .int (f6 10), .int (f6 11)])), (a 2, .inr (2, [.int (va), .int (f6 13), .int (f6 14), .int (f6 15)])), (a 3, .inr (1, [.int (f6 16), .int (f6 17), .int (f6 18), .ref (a 4), .ref (a 5)])), cI g (a 4) 21 d6, cI g (a 5) 21 ((fun k => d6 (21 + k))), (x 2, .inr (0, [.int (nI 0), .int (nI 0), .ref (x 3), .ref (x 4)]))] ++ ws6) H_39 := hP_41
        have hD_42 : va_D (M) ([(x 0, .inr (4, [.ref (a 0), .ref (x 1), .int (nI (s_recn n)), .ref (x 2), .ref (x 5), .ref (x 6), .ref (x 7)])), (x 1, .inl (g.2.2.2, 4, .inr (.inr (.inr (.inr hs6))))), (a 0, .inr (3, [.int (f6 0), .int (f6 1), .int (f6 2), .int (f6 3), .int (f6 4), .int (f6 5), .int (f6 6), .int (f6 7), .ref (a 1), .ref (a 2), .ref (a 3), .ref (a 6), .int (f6 61)])), (a 6, .inl (g.2.2.1, 10, .inr (.inr (.inr (.inr r6))))), (a 1, .inr (2, [.int (f6 8), .int (f6 9), .int (f6 10), .int (f6 11)])), (a 2, .inr (2, [.int (va), .int (f6 13), .int (f6 14), .int (f6 15)])), (a 3, .inr (1, [.int (f6 16), .int (f6 17), .int (f6 18), .ref (a 4), .ref (a 5)])), cI g (a 4) 21 d6, cI g (a 5) 21 ((fun k => d6 (21 + k))), (x 2, .inr (0, [.int (nI 0), .int (nI 0), .ref (x 3), .ref (x 4)]))] ++ ws6) := hD_42
        have hF_46 := KF.put hF6 hz_44 hk_45 (hD_42.2 5 _ rfl)
        refine lv_aload hx hb dX4_setValves_42 (lvG hl rfl) ?_
        refine lv_iload_n hx hb dX4_setValves_44 rfl (lvG hl rfl) ?_
        refine k_putO (ci := 2) (v := .int (vc)) (ty := .int) (C := RX2) (T := TX2) (N := 4) hC hK i_X2 tyX2 tyX2_ok nmX2 hP_41 hD_42 hS_43 5 rfl rfl 1 (by decide) w_71 (fun _ h9 => h9) rfl (by decide +kernel) rfl rfl (Nat.le_of_ble_eq_true rfl) dX4_setValves_45 (fun H_47 locs_48 hP_49 hD_50 hS_51 hz_52 hk_53 => ?_)
        have hP_49 : va_P g.1 kCl ([(x 0, .inr (4, [.ref (a 0), .ref (x 1), .int (nI (s_recn n)), .ref (x 2), .ref (x 5), .ref (x 6), .ref (x 7)])), (x 1, .inl (g.2.2.2, 4, .inr (.inr (.inr (.inr hs6))))), (a 0, .inr (3, [.int (f6 0), .int (f6 1), .int (f6 2), .int (f6 3), .int (f6 4), .int (f6 5), .int (f6 6), .int (f6 7), .ref (a 1), .ref (a 2), .ref (a 3), .ref (a 6), .int (f6 61)])), (a 6, .inl (g.2.2.1, 10, .inr (.inr (.inr (.inr r6))))), (a 1, .inr (2, [.int (f6 8), .int (f6 9), .int (f6 10), .int (f6 11)])), (a 2, .inr (2, [.int (va), .int (vc), .int (f6 14), .int (f6 15)])), (a 3, .inr (1, [.int (f6 16), .int (f6 17), .int (f6 18), .ref (a 4), .ref (a 5)])), cI g (a 4) 21 d6, cI g (a 5) 21 ((fun k => d6 (21 + k))), (x 2, .inr (0, [.int (nI 0), .int (nI 0), .ref (x 3), .ref (x 4)]))] ++ ws6) H_47 := hP_49
        have hD_50 : va_D (M) ([(x 0, .inr (4, [.ref (a 0), .ref (x 1), .int (nI (s_recn n)), .ref (x 2), .ref (x 5), .ref (x 6), .ref (x 7)])), (x 1, .inl (g.2.2.2, 4, .inr (.inr (.inr (.inr hs6))))), (a 0, .inr (3, [.int (f6 0), .int (f6 1), .int (f6 2), .int (f6 3), .int (f6 4), .int (f6 5), .int (f6 6), .int (f6 7), .ref (a 1), .ref (a 2), .ref (a 3), .ref (a 6), .int (f6 61)])), (a 6, .inl (g.2.2.1, 10, .inr (.inr (.inr (.inr r6))))), (a 1, .inr (2, [.int (f6 8), .int (f6 9), .int (f6 10), .int (f6 11)])), (a 2, .inr (2, [.int (va), .int (vc), .int (f6 14), .int (f6 15)])), (a 3, .inr (1, [.int (f6 16), .int (f6 17), .int (f6 18), .ref (a 4), .ref (a 5)])), cI g (a 4) 21 d6, cI g (a 5) 21 ((fun k => d6 (21 + k))), (x 2, .inr (0, [.int (nI 0), .int (nI 0), .ref (x 3), .ref (x 4)]))] ++ ws6) := hD_50
        have hF_54 := KF.put hF_46 hz_52 hk_53 (hD_50.2 5 _ rfl)
        refine lv_aload hx hb dX4_setValves_48 (lvG hl rfl) ?_
        refine lv_iload hx hb dX4_setValves_50 (lvG hl rfl) ?_
        refine k_putO (ci := 2) (v := .int (vr)) (ty := .int) (C := RX2) (T := TX2) (N := 4) hC hK i_X2 tyX2 tyX2_ok nmX2 hP_49 hD_50 hS_51 5 rfl rfl 2 (by decide) w_73 (fun _ h9 => h9) rfl (by decide +kernel) rfl rfl (Nat.le_of_ble_eq_true rfl) dX4_setValves_52 (fun H_55 locs_56 hP_57 hD_58 hS_59 hz_60 hk_61 => ?_)
        have hP_57 : va_P g.1 kCl ([(x 0, .inr (4, [.ref (a 0), .ref (x 1), .int (nI (s_recn n)), .ref (x 2), .ref (x 5), .ref (x 6), .ref (x 7)])), (x 1, .inl (g.2.2.2, 4, .inr (.inr (.inr (.inr hs6))))), (a 0, .inr (3, [.int (f6 0), .int (f6 1), .int (f6 2), .int (f6 3), .int (f6 4), .int (f6 5), .int (f6 6), .int (f6 7), .ref (a 1), .ref (a 2), .ref (a 3), .ref (a 6), .int (f6 61)])), (a 6, .inl (g.2.2.1, 10, .inr (.inr (.inr (.inr r6))))), (a 1, .inr (2, [.int (f6 8), .int (f6 9), .int (f6 10), .int (f6 11)])), (a 2, .inr (2, [.int (va), .int (vc), .int (vr), .int (f6 15)])), (a 3, .inr (1, [.int (f6 16), .int (f6 17), .int (f6 18), .ref (a 4), .ref (a 5)])), cI g (a 4) 21 d6, cI g (a 5) 21 ((fun k => d6 (21 + k))), (x 2, .inr (0, [.int (nI 0), .int (nI 0), .ref (x 3), .ref (x 4)]))] ++ ws6) H_55 := hP_57
        have hD_58 : va_D (M) ([(x 0, .inr (4, [.ref (a 0), .ref (x 1), .int (nI (s_recn n)), .ref (x 2), .ref (x 5), .ref (x 6), .ref (x 7)])), (x 1, .inl (g.2.2.2, 4, .inr (.inr (.inr (.inr hs6))))), (a 0, .inr (3, [.int (f6 0), .int (f6 1), .int (f6 2), .int (f6 3), .int (f6 4), .int (f6 5), .int (f6 6), .int (f6 7), .ref (a 1), .ref (a 2), .ref (a 3), .ref (a 6), .int (f6 61)])), (a 6, .inl (g.2.2.1, 10, .inr (.inr (.inr (.inr r6))))), (a 1, .inr (2, [.int (f6 8), .int (f6 9), .int (f6 10), .int (f6 11)])), (a 2, .inr (2, [.int (va), .int (vc), .int (vr), .int (f6 15)])), (a 3, .inr (1, [.int (f6 16), .int (f6 17), .int (f6 18), .ref (a 4), .ref (a 5)])), cI g (a 4) 21 d6, cI g (a 5) 21 ((fun k => d6 (21 + k))), (x 2, .inr (0, [.int (nI 0), .int (nI 0), .ref (x 3), .ref (x 4)]))] ++ ws6) := hD_58
        have hF_62 := KF.put hF_54 hz_60 hk_61 (hD_58.2 5 _ rfl)
        refine lv_aload hx hb dX4_setValves_55 (lvG hl rfl) ?_
        refine lv_iload hx hb dX4_setValves_57 (lvG hl rfl) ?_
        refine k_putO (ci := 2) (v := .int (vm)) (ty := .int) (C := RX2) (T := TX2) (N := 4) hC hK i_X2 tyX2 tyX2_ok nmX2 hP_57 hD_58 hS_59 5 rfl rfl 3 (by decide) w_75 (fun _ h9 => h9) rfl (by decide +kernel) rfl rfl (Nat.le_of_ble_eq_true rfl) dX4_setValves_59 (fun H_63 locs_64 hP_65 hD_66 hS_67 hz_68 hk_69 => ?_)
        have hP_65 : va_P g.1 kCl ([(x 0, .inr (4, [.ref (a 0), .ref (x 1), .int (nI (s_recn n)), .ref (x 2), .ref (x 5), .ref (x 6), .ref (x 7)])), (x 1, .inl (g.2.2.2, 4, .inr (.inr (.inr (.inr hs6))))), (a 0, .inr (3, [.int (f6 0), .int (f6 1), .int (f6 2), .int (f6 3), .int (f6 4), .int (f6 5), .int (f6 6), .int (f6 7), .ref (a 1), .ref (a 2), .ref (a 3), .ref (a 6), .int (f6 61)])), (a 6, .inl (g.2.2.1, 10, .inr (.inr (.inr (.inr r6))))), (a 1, .inr (2, [.int (f6 8), .int (f6 9), .int (f6 10), .int (f6 11)])), (a 2, .inr (2, [.int (va), .int (vc), .int (vr), .int (vm)])), (a 3, .inr (1, [.int (f6 16), .int (f6 17), .int (f6 18), .ref (a 4), .ref (a 5)])), cI g (a 4) 21 d6, cI g (a 5) 21 ((fun k => d6 (21 + k))), (x 2, .inr (0, [.int (nI 0), .int (nI 0), .ref (x 3), .ref (x 4)]))] ++ ws6) H_63 := hP_65
        have hD_66 : va_D (M) ([(x 0, .inr (4, [.ref (a 0), .ref (x 1), .int (nI (s_recn n)), .ref (x 2), .ref (x 5), .ref (x 6), .ref (x 7)])), (x 1, .inl (g.2.2.2, 4, .inr (.inr (.inr (.inr hs6))))), (a 0, .inr (3, [.int (f6 0), .int (f6 1), .int (f6 2), .int (f6 3), .int (f6 4), .int (f6 5), .int (f6 6), .int (f6 7), .ref (a 1), .ref (a 2), .ref (a 3), .ref (a 6), .int (f6 61)])), (a 6, .inl (g.2.2.1, 10, .inr (.inr (.inr (.inr r6))))), (a 1, .inr (2, [.int (f6 8), .int (f6 9), .int (f6 10), .int (f6 11)])), (a 2, .inr (2, [.int (va), .int (vc), .int (vr), .int (vm)])), (a 3, .inr (1, [.int (f6 16), .int (f6 17), .int (f6 18), .ref (a 4), .ref (a 5)])), cI g (a 4) 21 d6, cI g (a 5) 21 ((fun k => d6 (21 + k))), (x 2, .inr (0, [.int (nI 0), .int (nI 0), .ref (x 3), .ref (x 4)]))] ++ ws6) := hD_66
        have hF_70 := KF.put hF_62 hz_68 hk_69 (hD_66.2 5 _ rfl)
        refine lv_iconst (v := nI 0) hx hb dX4_setValves_62 (by decide) ?_
        exact k_iretM hC hr hlk hS_67 dX4_setValves_63 (sv_t ⟨⟨zc4, zc16.1.1, zc16.1.2.1, zc16.1.2.2.1, zc16.1.2.2.2⟩, zc16.2⟩ (by rw [e_zj, z0]) ef6 (XW.close (ws := cTr x :: ws6) (d' := d6) (r' := r6) hXW6 hP_65 hD_66 hR6 hF_70.2 (fun j h1 h2 => svU_hi (by decide) (by omega)) ((hB6.kept (fun q h c => hF_70.2 q h (fun z => c (Or.inl z)))).congr16 (fun j h1 h2 => (svU_hi (by decide) (by omega)).symm))))
    · refine lv_ldc (v := (-2000000001 : Int32)) hx hb hown (hts _ w_204) dX4_setValves_19 ?_
      exact k_iretM hC hr hlk hS dX4_setValves_21 (by first | exact sv_f (fun q => zc4 q.1.1) hXW | exact sv_f (fun q => zc16 ⟨q.1.2, q.2⟩) hXW)
