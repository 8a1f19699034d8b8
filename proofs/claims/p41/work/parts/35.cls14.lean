theorem sc_5 {x : Nat → Nat} : SC x (x 5) := Or.inr (Or.inr (Or.inl rfl))
theorem sc_34 {x : Nat → Nat} {q : Nat} (h : q = x 3 ∨ q = x 4) : SC x q := h.elim Or.inl (fun c => Or.inr (Or.inl c))
theorem XKv {g : kG} {x : Nat → Nat} {yf : Nat} {e0 : va_E} {H : Heap} (h : va_P g.1 kCl [(yf, e0)] H) (hn : ¬ SC x yf) : XK g [(yf, e0)] (fun q => q = x 5) H := ⟨h, fun k q hq c => by
  match k, hq with
  | 0, hq => cases hq; exact hn (by rw [show yf = x 5 from c]; exact sc_5)
  | k + 1, hq => simp at hq⟩
theorem XKd {g : kG} {x : Nat → Nat} {y0 y1 y2 y3 : Nat} {e0 e1 e2 e3 : va_E} {H : Heap} (h : va_P g.1 kCl [(y0, e0), (y1, e1), (y2, e2), (y3, e3)] H) (h0 : ¬ SC x y0) (h1 : ¬ SC x y1) (h2 : ¬ (y2 = x 3 ∨ y2 = x 4)) (h3 : ¬ SC x y3) : XK g [(y0, e0), (y1, e1), (y2, e2), (y3, e3)] (fun q => q = x 3 ∨ q = x 4) H := ⟨h, fun k q hq c => by
  match k, hq with
  | 0, hq => cases hq; exact h0 (sc_34 c)
  | 1, hq => cases hq; exact h1 (sc_34 c)
  | 2, hq => cases hq; exact h2 c
  | 3, hq => cases hq; exact h3 (sc_34 c)
  | k + 4, hq => simp at hq⟩
theorem at_k {g : kG} {y : Nat} {e0 : va_E} {H H1 : Heap} (h : va_at g.1 kCl (y, e0) H) (hk : H1[y]? = H[y]?) : va_at g.1 kCl (y, e0) H1 := (show va_P g.1 kCl [(y, e0)] H from fun k q hq => by
  match k, hq with
  | 0, hq => cases hq; exact h
  | k + 1, hq => simp at hq).kept (fun k q hq => by
  match k, hq with
  | 0, hq => cases hq; exact hk
  | k + 1, hq => simp at hq) 0 _ rfl
section PTS
variable {g : kG} {A : Nat → Prop} {y0 y1 y2 y3 y4 : Nat} {e0 e1 e2 e3 e4 d0 d1 d2 : va_E} {H H1 : Heap}
theorem PT2 (h : va_P g.1 kCl [(y0, e0), (y1, e1), (y2, e2), (y3, e3), (y4, e4)] H) (h2 : va_D A [(y0, e0), (y1, e1), (y2, e2), (y3, e3), (y4, e4)]) (hq : va_P g.1 kCl [(y2, d2)] H1) (hk : ∀ q : Nat, q < H.size → ¬ q = y2 → H1[q]? = H[q]?) : va_P g.1 kCl [(y0, e0), (y1, e1), (y2, d2), (y3, e3), (y4, e4)] H1 := fun k q hq2 => by
  match k, hq2 with
  | 0, hq2 => cases hq2; exact at_k (h 0 _ rfl) (hk y0 (h 0 _ rfl).lt (fun c => absurd (h2.1 0 2 _ _ rfl rfl c) (by decide)))
  | 1, hq2 => cases hq2; exact at_k (h 1 _ rfl) (hk y1 (h 1 _ rfl).lt (fun c => absurd (h2.1 1 2 _ _ rfl rfl c) (by decide)))
  | 2, hq2 => cases hq2; exact hq 0 _ rfl
  | 3, hq2 => cases hq2; exact at_k (h 3 _ rfl) (hk y3 (h 3 _ rfl).lt (fun c => absurd (h2.1 3 2 _ _ rfl rfl c) (by decide)))
  | 4, hq2 => cases hq2; exact at_k (h 4 _ rfl) (hk y4 (h 4 _ rfl).lt (fun c => absurd (h2.1 4 2 _ _ rfl rfl c) (by decide)))
  | k + 5, hq2 => simp at hq2
theorem PT01 (h : va_P g.1 kCl [(y0, e0), (y1, e1), (y2, e2), (y3, e3), (y4, e4)] H) (h2 : va_D A [(y0, e0), (y1, e1), (y2, e2), (y3, e3), (y4, e4)]) (hq : va_P g.1 kCl [(y0, d0), (y1, d1)] H1) (hk : ∀ q : Nat, q < H.size → ¬ (q = y0 ∨ q = y1) → H1[q]? = H[q]?) : va_P g.1 kCl [(y0, d0), (y1, d1), (y2, e2), (y3, e3), (y4, e4)] H1 := fun k q hq2 => by
  match k, hq2 with
  | 0, hq2 => cases hq2; exact hq 0 _ rfl
  | 1, hq2 => cases hq2; exact hq 1 _ rfl
  | 2, hq2 => cases hq2; exact at_k (h 2 _ rfl) (hk y2 (h 2 _ rfl).lt (fun c => c.elim (fun c => absurd (h2.1 2 0 _ _ rfl rfl c) (by decide)) (fun c => absurd (h2.1 2 1 _ _ rfl rfl c) (by decide))))
  | 3, hq2 => cases hq2; exact at_k (h 3 _ rfl) (hk y3 (h 3 _ rfl).lt (fun c => c.elim (fun c => absurd (h2.1 3 0 _ _ rfl rfl c) (by decide)) (fun c => absurd (h2.1 3 1 _ _ rfl rfl c) (by decide))))
  | 4, hq2 => cases hq2; exact at_k (h 4 _ rfl) (hk y4 (h 4 _ rfl).lt (fun c => c.elim (fun c => absurd (h2.1 4 0 _ _ rfl rfl c) (by decide)) (fun c => absurd (h2.1 4 1 _ _ rfl rfl c) (by decide))))
  | k + 5, hq2 => simp at hq2
end PTS
/-- the trial card with both strokes drawn -/
def k_tc (tr P0 P1 : Nat → Int32) : Nat → Int32 := s_fl (s_fl tr 0 P0 21) 21 P1 21
theorem PTd {g : kG} {x : Nat → Nat} {tr P0 P1 : Nat → Int32} {y2 y3 y4 : Nat} {e2 e3 e4 : va_E} {H : Heap} (h : va_P g.1 kCl [cI g (x 3) 21 (s_fl tr 0 P0 21), cI g (x 4) 21 (s_fl (fun k => tr (21 + k)) 0 P1 21), (y2, e2), (y3, e3), (y4, e4)] H) : va_P g.1 kCl [cI g (x 3) 21 (k_tc tr P0 P1), cI g (x 4) 21 (fun k => k_tc tr P0 P1 (21 + k)), (y2, e2), (y3, e3), (y4, e4)] H := fun k q hq => by
  match k, hq with
  | 0, hq => cases hq; have := h 0 _ rfl; exact this.trans (congrArg some (vp_eq (fun k hk => (s_fl_out _ _ _ _ _ (by omega)).symm)))
  | 1, hq =>
    cases hq; have := h 1 _ rfl
    refine this.trans (congrArg some (vp_eq (fun k hk => ?_)))
    have a1 := s_fl_in (fun k => tr (21 + k)) 0 P1 21 k hk
    rw [Nat.zero_add] at a1
    exact a1.trans (s_fl_in (s_fl tr 0 P0 21) 21 P1 21 k hk).symm
  | 2, hq => cases hq; exact h 2 _ rfl
  | 3, hq => cases hq; exact h 3 _ rfl
  | 4, hq => cases hq; exact h 4 _ rfl
  | k + 5, hq => simp at hq
def k_ic (f : Nat → Int32) (vb : Nat) (co : Int32) : Nat → Int32 := fun k => if k < 21 then k_do f (f vb) co (f (vb + 2)) (nI 0) k else k_di f (f (vb + 3)) (k - 21)
theorem tc_ic (f tr : Nat → Int32) (vb : Nat) (co : Int32) : s_ar (k_tc tr (k_do f (f vb) co (f (vb + 2)) (nI 0)) (k_di f (f (vb + 3)))) 20 = s_ar (k_ic f vb co) 20 := s_ar_eq 20 (by omega) (fun k hk => by
  unfold k_ic k_tc
  by_cases c : k < 21
  · rw [if_pos c, s_fl_out _ _ _ _ _ (by omega)]
    have := s_fl_in tr 0 (k_do f (f vb) co (f (vb + 2)) (nI 0)) 21 k c
    rw [Nat.zero_add] at this
    exact this
  · rw [if_neg c]
    have := s_fl_in (s_fl tr 0 (k_do f (f vb) co (f (vb + 2)) (nI 0)) 21) 21 (k_di f (f (vb + 3))) 21 (k - 21) (by omega)
    rw [show 21 + (k - 21) = k by omega] at this
    exact this)
theorem cE_0 (y : Nat) (v0 v1 v2 v3 : Int32) : cE y (v0 + nI 0) (v1 + nI 0) (v2 + nI 0) (v3 - nI 0) = cE y v0 v1 v2 v3 := by
  rw [show v0 + nI 0 = v0 from Int32.add_zero _, show v1 + nI 0 = v1 from Int32.add_zero _, show v2 + nI 0 = v2 from Int32.add_zero _, show v3 - nI 0 = v3 from Int32.sub_zero _]
theorem L_X4_X2_copyShifted : LnkV RX4 173 yX2_copyShifted cX2_copyShifted 3 none 2 := ⟨w_303, w_218, w_219, w_27, w_220, ⟨by decide +kernel, by decide +kernel⟩, by decide +kernel⟩
theorem L_X4_X4_drawIdealCard : LnkV RX4 181 yX4_drawIdealCard cX4_drawIdealCard 4 none 3 := ⟨w_309, w_311, w_3, w_25, w_312, ⟨by decide +kernel, by decide +kernel⟩, by decide +kernel⟩
set_option maxHeartbeats 4000000 in
set_option maxRecDepth 100000 in
theorem c_X4_areaWith0 (l : Launch) (g : kG) (x : Nat → Nat) (a : Nat → Nat) (n : Nat) (f : Nat → Int32) (cn : Nat) (rf : Nat → Option Nat) (co : Int32) : MI l yX4_areaWithCutOff cX4_areaWithCutOff 3 (some .int) (rr 4 95) [.ref (x 0), .int (nI 0), .int (co)] ((fun H => XB g x a n f cn rf H ∧ XS g x H)) g 0 0 (SC x) (fun r H1 => r = s_ar (k_ic f 8 co) 20 ∧ XS g x H1) := by
  refine kOf (by decide) (Nat.le_of_ble_eq_true rfl) (fun p e s m below meth c ls hC hr hlk hin hK hP hl => ?_)
  have hx := hC.1
  have hb := hC.2.1
  have hml := hC.2.2.1
  have hown := hC.2.2.2.1
  have hts := hC.2.2.2.2
  have hl : lv_has ls 3 [(0, .ref (x 0)), (1, .int (nI 0)), (2, .int (co))] := hl
  obtain ⟨hB, ⟨tr, te, fo, so, hT, hD⟩⟩ := hP
  have hS : va_S (SC x) s.heap s.heap [] := va_S.rf
  refine lv_aload_n hx hb dX4_areaWithCutOff_0 rfl (lvG hl rfl) ?_
  refine va_get (D := g.1) (ci := 4) (v := .ref (x 5)) (C := RX4) (T := TX4) (N := 7) hx hb hts i_X4 hown hK.1 hB.1 0 rfl rfl 4 (by decide) (hts _ w_179) (fun _ h9 => h9) rfl dX4_areaWithCutOff_1 ?_
  refine lv_aload_n hx hb dX4_areaWithCutOff_4 rfl (lvG hl rfl) ?_
  refine va_get (D := g.1) (ci := 4) (v := .ref (a 0)) (C := RX4) (T := TX4) (N := 7) hx hb hts i_X4 hown hK.1 hB.1 0 rfl rfl 0 (by decide) (hts _ w_175) (fun _ h9 => h9) rfl dX4_areaWithCutOff_5 ?_
  refine lv_iload_n hx hb dX4_areaWithCutOff_8 rfl (lvG hl rfl) ?_
  refine k_callPR (k_goV (rest := [.ref (x 5)]) hC hK (c_X3_valvesOf l g a f (nI 0)) L_X4_X3_valvesOf (⟨⟨Nat.le_of_ble_eq_true rfl, Nat.le_of_ble_eq_true rfl⟩, ⟨rfl, rfl⟩, ⟨Nat.le_of_ble_eq_true rfl, Nat.le_of_ble_eq_true rfl⟩⟩) (k_recv hK hB.1 1 rfl rfl) ((hB.1.sub [1] rfl)) rfl hl.1 rfl (Nat.le_of_ble_eq_true rfl) dX4_areaWithCutOff_9) ?_
  rw [if_pos (show nI 0 = nI 0 from rfl)]
  refine lv_iconst (v := nI 0) hx hb dX4_areaWithCutOff_12 (by decide) ?_
  refine k_callMV0 (k_goV (rest := []) hC hK (c_X2_copyShifted l g (x 5) (te 0) (te 1) (te 2) (te 3) (a 1) (f 8) (f 9) (f 10) (f 11) (nI 0)) L_X4_X2_copyShifted (⟨⟨Nat.le_of_ble_eq_true rfl, Nat.le_of_ble_eq_true rfl⟩, ⟨rfl, rfl⟩, ⟨Nat.le_of_ble_eq_true rfl, Nat.le_of_ble_eq_true rfl⟩⟩) (k_recv hK hT 2 rfl rfl) (⟨(hT.sub [2] rfl), XKv (hB.1.sub [2] rfl) (hB.2.1 2 _ rfl)⟩) rfl hl.1 rfl (Nat.le_of_ble_eq_true rfl) dX4_areaWithCutOff_13) hS (fun q c => by rw [show q = x 5 from c]; exact sc_5) (fun H_1 locs_2 hQ_3 hz_ hk_5 hS_4 => ?_)
  rw [cE_0] at hQ_3
  have hT_6 : va_P g.1 kCl [cI g (x 3) 21 tr, cI g (x 4) 21 ((fun k => tr (21 + k))), (x 5, .inr (2, [.int (f 8), .int (f 9), .int (f 10), .int (f 11)])), (x 6, .inr (2, [.int (fo 0), .int (fo 1), .int (fo 2), .int (fo 3)])), cI g (x 7) 10 so] H_1 := PT2 hT hD hQ_3 hk_5
  have hD_7 : va_D (SC x) [cI g (x 3) 21 tr, cI g (x 4) 21 ((fun k => tr (21 + k))), (x 5, .inr (2, [.int (f 8), .int (f 9), .int (f 10), .int (f 11)])), (x 6, .inr (2, [.int (fo 0), .int (fo 1), .int (fo 2), .int (fo 3)])), cI g (x 7) 10 so] := va_D_re hD
  have hB_8 : XB g x a n f cn rf H_1 := hB.at hS_4
  refine lv_aload_n hx hb dX4_areaWithCutOff_16 rfl (lvG hl rfl) ?_
  refine va_get (D := g.1) (ci := 4) (v := .ref (x 5)) (C := RX4) (T := TX4) (N := 7) hx hb hts i_X4 hown hK.1 hB_8.1 0 rfl rfl 4 (by decide) (hts _ w_179) (fun _ h9 => h9) rfl dX4_areaWithCutOff_17 ?_
  refine lv_iload_n hx hb dX4_areaWithCutOff_20 rfl (lvG hl rfl) ?_
  refine va_put (D := g.1) (ci := 2) (v := .int (co)) (ty := .int) (C := RX2) (T := TX2) (N := 4) hx hb hts i_X2 tyX2 tyX2_ok nmX2 hown hK.1 hT_6 hD_7 hS_4 2 rfl rfl 1 (by decide) (hts _ w_71) (fun _ h9 => h9) rfl (by decide +kernel) rfl rfl (Nat.le_of_ble_eq_true rfl) dX4_areaWithCutOff_21 (fun H_9 locs_10 hP_11 hD_12 hS_13 => ?_)
  have hP_11 : va_P g.1 kCl [cI g (x 3) 21 tr, cI g (x 4) 21 ((fun k => tr (21 + k))), (x 5, .inr (2, [.int (f 8), .int (co), .int (f 10), .int (f 11)])), (x 6, .inr (2, [.int (fo 0), .int (fo 1), .int (fo 2), .int (fo 3)])), cI g (x 7) 10 so] H_9 := hP_11
  have hD_12 : va_D (SC x) [cI g (x 3) 21 tr, cI g (x 4) 21 ((fun k => tr (21 + k))), (x 5, .inr (2, [.int (f 8), .int (co), .int (f 10), .int (f 11)])), (x 6, .inr (2, [.int (fo 0), .int (fo 1), .int (fo 2), .int (fo 3)])), cI g (x 7) 10 so] := hD_12
  have hB_14 : XB g x a n f cn rf H_9 := hB.at hS_13
  refine lv_aload_n hx hb dX4_areaWithCutOff_24 rfl (lvG hl rfl) ?_
  refine lv_aload_n hx hb dX4_areaWithCutOff_25 rfl (lvG hl rfl) ?_
  refine va_get (D := g.1) (ci := 4) (v := .ref (x 2)) (C := RX4) (T := TX4) (N := 7) hx hb hts i_X4 hown hK.1 hB_14.1 0 rfl rfl 3 (by decide) (hts _ w_178) (fun _ h9 => h9) rfl dX4_areaWithCutOff_26 ?_
  refine lv_aload_n hx hb dX4_areaWithCutOff_29 rfl (lvG hl rfl) ?_
  refine va_get (D := g.1) (ci := 4) (v := .ref (x 5)) (C := RX4) (T := TX4) (N := 7) hx hb hts i_X4 hown hK.1 hB_14.1 0 rfl rfl 4 (by decide) (hts _ w_179) (fun _ h9 => h9) rfl dX4_areaWithCutOff_30 ?_
  refine lv_iconst (v := nI 0) hx hb dX4_areaWithCutOff_33 (by decide) ?_
  refine k_callMV0 (k_goV (rest := []) hC hK (c_X4_drawIdealCard l g x a n f (x 5) (f 8) co (f 10) (f 11) (x 2) (x 3) (x 4) (nI 0) (nI 0) tr ((fun k => tr (21 + k))) (nI 0) (fun c => absurd (hD.1 0 1 _ _ rfl rfl c) (by decide))) L_X4_X4_drawIdealCard (⟨⟨Nat.le_of_ble_eq_true rfl, Nat.le_of_ble_eq_true rfl⟩, ⟨rfl, rfl⟩, ⟨Nat.le_of_ble_eq_true rfl, Nat.le_of_ble_eq_true rfl⟩⟩) (k_recv hK hB_14.1 0 rfl rfl) (⟨XKd (va_P.app (hB_14.1.sub [0, 1] rfl) (va_P.app (hP_11.sub [2] rfl) (hB_14.1.sub [5] rfl))) (hB_14.2.1 0 _ rfl) (hB_14.2.1 1 _ rfl) (fun c => c.elim (fun c => absurd (hD_12.1 2 0 _ _ rfl rfl c) (by decide)) (fun c => absurd (hD_12.1 2 1 _ _ rfl rfl c) (by decide))) (hB_14.2.1 5 _ rfl), (hP_11.sub [0, 1] rfl)⟩) rfl hl.1 rfl (Nat.le_of_ble_eq_true rfl) dX4_areaWithCutOff_34) hS_13 (fun q c => sc_34 c) (fun H_15 locs_16 hQ_17 hz_ hk_19 hS_18 => ?_)
  have hT_20 : va_P g.1 kCl [cI g (x 3) 21 (k_tc tr (k_do f (f 8) co (f 10) (nI 0)) (k_di f (f 11))), cI g (x 4) 21 ((fun k => k_tc tr (k_do f (f 8) co (f 10) (nI 0)) (k_di f (f 11)) (21 + k))), (x 5, .inr (2, [.int (f 8), .int (co), .int (f 10), .int (f 11)])), (x 6, .inr (2, [.int (fo 0), .int (fo 1), .int (fo 2), .int (fo 3)])), cI g (x 7) 10 so] H_15 := PTd (PT01 hP_11 hD_12 hQ_17 hk_19)
  have hD_21 : va_D (SC x) [cI g (x 3) 21 (k_tc tr (k_do f (f 8) co (f 10) (nI 0)) (k_di f (f 11))), cI g (x 4) 21 ((fun k => k_tc tr (k_do f (f 8) co (f 10) (nI 0)) (k_di f (f 11)) (21 + k))), (x 5, .inr (2, [.int (f 8), .int (co), .int (f 10), .int (f 11)])), (x 6, .inr (2, [.int (fo 0), .int (fo 1), .int (fo 2), .int (fo 3)])), cI g (x 7) 10 so] := va_D_re hD_12
  have hB_22 : XB g x a n f cn rf H_15 := hB.at hS_18
  refine lv_aload_n hx hb dX4_areaWithCutOff_37 rfl (lvG hl rfl) ?_
  refine va_get (D := g.1) (ci := 4) (v := .ref (x 2)) (C := RX4) (T := TX4) (N := 7) hx hb hts i_X4 hown hK.1 hB_22.1 0 rfl rfl 3 (by decide) (hts _ w_178) (fun _ h9 => h9) rfl dX4_areaWithCutOff_38 ?_
  refine k_callPI (k_goV (rest := []) hC hK (c_X0_wholeArea l g (x 2) (x 3) (x 4) (nI 0) (nI 0) (k_tc tr (k_do f (f 8) co (f 10) (nI 0)) (k_di f (f 11)))) L_X4_X0_wholeArea (⟨⟨Nat.le_of_ble_eq_true rfl, Nat.le_of_ble_eq_true rfl⟩, ⟨rfl, rfl⟩, ⟨Nat.le_of_ble_eq_true rfl, Nat.le_of_ble_eq_true rfl⟩⟩) (k_recv hK hB_22.1 5 rfl rfl) ((va_P.app (hB_22.1.sub [5] rfl) (hT_20.sub [0, 1] rfl))) rfl hl.1 rfl (Nat.le_of_ble_eq_true rfl) dX4_areaWithCutOff_41) ?_
  exact k_iretM hC hr hlk hS_18 dX4_areaWithCutOff_44 (⟨tc_ic f tr 8 co, XTS (tr := k_tc tr (k_do f (f 8) co (f 10) (nI 0)) (k_di f (f 11))) (te := fun k => if k = 0 then f 8 else if k = 1 then co else if k = 2 then f 10 else f 11) (fo := fo) (so := so) ⟨hT_20, hD_21⟩⟩)
set_option maxHeartbeats 4000000 in
set_option maxRecDepth 100000 in
theorem c_X4_areaWith1 (l : Launch) (g : kG) (x : Nat → Nat) (a : Nat → Nat) (n : Nat) (f : Nat → Int32) (cn : Nat) (rf : Nat → Option Nat) (co : Int32) : MI l yX4_areaWithCutOff cX4_areaWithCutOff 3 (some .int) (rr 4 95) [.ref (x 0), .int (nI 1), .int (co)] ((fun H => XB g x a n f cn rf H ∧ XS g x H)) g 0 0 (SC x) (fun r H1 => r = s_ar (k_ic f 12 co) 20 ∧ XS g x H1) := by
  refine kOf (by decide) (Nat.le_of_ble_eq_true rfl) (fun p e s m below meth c ls hC hr hlk hin hK hP hl => ?_)
  have hx := hC.1
  have hb := hC.2.1
  have hml := hC.2.2.1
  have hown := hC.2.2.2.1
  have hts := hC.2.2.2.2
  have hl : lv_has ls 3 [(0, .ref (x 0)), (1, .int (nI 1)), (2, .int (co))] := hl
  obtain ⟨hB, ⟨tr, te, fo, so, hT, hD⟩⟩ := hP
  have hS : va_S (SC x) s.heap s.heap [] := va_S.rf
  refine lv_aload_n hx hb dX4_areaWithCutOff_0 rfl (lvG hl rfl) ?_
  refine va_get (D := g.1) (ci := 4) (v := .ref (x 5)) (C := RX4) (T := TX4) (N := 7) hx hb hts i_X4 hown hK.1 hB.1 0 rfl rfl 4 (by decide) (hts _ w_179) (fun _ h9 => h9) rfl dX4_areaWithCutOff_1 ?_
  refine lv_aload_n hx hb dX4_areaWithCutOff_4 rfl (lvG hl rfl) ?_
  refine va_get (D := g.1) (ci := 4) (v := .ref (a 0)) (C := RX4) (T := TX4) (N := 7) hx hb hts i_X4 hown hK.1 hB.1 0 rfl rfl 0 (by decide) (hts _ w_175) (fun _ h9 => h9) rfl dX4_areaWithCutOff_5 ?_
  refine lv_iload_n hx hb dX4_areaWithCutOff_8 rfl (lvG hl rfl) ?_
  refine k_callPR (k_goV (rest := [.ref (x 5)]) hC hK (c_X3_valvesOf l g a f (nI 1)) L_X4_X3_valvesOf (⟨⟨Nat.le_of_ble_eq_true rfl, Nat.le_of_ble_eq_true rfl⟩, ⟨rfl, rfl⟩, ⟨Nat.le_of_ble_eq_true rfl, Nat.le_of_ble_eq_true rfl⟩⟩) (k_recv hK hB.1 1 rfl rfl) ((hB.1.sub [1] rfl)) rfl hl.1 rfl (Nat.le_of_ble_eq_true rfl) dX4_areaWithCutOff_9) ?_
  rw [if_neg (show ¬ nI 1 = nI 0 by decide)]
  refine lv_iconst (v := nI 0) hx hb dX4_areaWithCutOff_12 (by decide) ?_
  refine k_callMV0 (k_goV (rest := []) hC hK (c_X2_copyShifted l g (x 5) (te 0) (te 1) (te 2) (te 3) (a 2) (f 12) (f 13) (f 14) (f 15) (nI 0)) L_X4_X2_copyShifted (⟨⟨Nat.le_of_ble_eq_true rfl, Nat.le_of_ble_eq_true rfl⟩, ⟨rfl, rfl⟩, ⟨Nat.le_of_ble_eq_true rfl, Nat.le_of_ble_eq_true rfl⟩⟩) (k_recv hK hT 2 rfl rfl) (⟨(hT.sub [2] rfl), XKv (hB.1.sub [3] rfl) (hB.2.1 3 _ rfl)⟩) rfl hl.1 rfl (Nat.le_of_ble_eq_true rfl) dX4_areaWithCutOff_13) hS (fun q c => by rw [show q = x 5 from c]; exact sc_5) (fun H_1 locs_2 hQ_3 hz_ hk_5 hS_4 => ?_)
  rw [cE_0] at hQ_3
  have hT_6 : va_P g.1 kCl [cI g (x 3) 21 tr, cI g (x 4) 21 ((fun k => tr (21 + k))), (x 5, .inr (2, [.int (f 12), .int (f 13), .int (f 14), .int (f 15)])), (x 6, .inr (2, [.int (fo 0), .int (fo 1), .int (fo 2), .int (fo 3)])), cI g (x 7) 10 so] H_1 := PT2 hT hD hQ_3 hk_5
  have hD_7 : va_D (SC x) [cI g (x 3) 21 tr, cI g (x 4) 21 ((fun k => tr (21 + k))), (x 5, .inr (2, [.int (f 12), .int (f 13), .int (f 14), .int (f 15)])), (x 6, .inr (2, [.int (fo 0), .int (fo 1), .int (fo 2), .int (fo 3)])), cI g (x 7) 10 so] := va_D_re hD
  have hB_8 : XB g x a n f cn rf H_1 := hB.at hS_4
  refine lv_aload_n hx hb dX4_areaWithCutOff_16 rfl (lvG hl rfl) ?_
  refine va_get (D := g.1) (ci := 4) (v := .ref (x 5)) (C := RX4) (T := TX4) (N := 7) hx hb hts i_X4 hown hK.1 hB_8.1 0 rfl rfl 4 (by decide) (hts _ w_179) (fun _ h9 => h9) rfl dX4_areaWithCutOff_17 ?_
  refine lv_iload_n hx hb dX4_areaWithCutOff_20 rfl (lvG hl rfl) ?_
  refine va_put (D := g.1) (ci := 2) (v := .int (co)) (ty := .int) (C := RX2) (T := TX2) (N := 4) hx hb hts i_X2 tyX2 tyX2_ok nmX2 hown hK.1 hT_6 hD_7 hS_4 2 rfl rfl 1 (by decide) (hts _ w_71) (fun _ h9 => h9) rfl (by decide +kernel) rfl rfl (Nat.le_of_ble_eq_true rfl) dX4_areaWithCutOff_21 (fun H_9 locs_10 hP_11 hD_12 hS_13 => ?_)
  have hP_11 : va_P g.1 kCl [cI g (x 3) 21 tr, cI g (x 4) 21 ((fun k => tr (21 + k))), (x 5, .inr (2, [.int (f 12), .int (co), .int (f 14), .int (f 15)])), (x 6, .inr (2, [.int (fo 0), .int (fo 1), .int (fo 2), .int (fo 3)])), cI g (x 7) 10 so] H_9 := hP_11
  have hD_12 : va_D (SC x) [cI g (x 3) 21 tr, cI g (x 4) 21 ((fun k => tr (21 + k))), (x 5, .inr (2, [.int (f 12), .int (co), .int (f 14), .int (f 15)])), (x 6, .inr (2, [.int (fo 0), .int (fo 1), .int (fo 2), .int (fo 3)])), cI g (x 7) 10 so] := hD_12
  have hB_14 : XB g x a n f cn rf H_9 := hB.at hS_13
  refine lv_aload_n hx hb dX4_areaWithCutOff_24 rfl (lvG hl rfl) ?_
  refine lv_aload_n hx hb dX4_areaWithCutOff_25 rfl (lvG hl rfl) ?_
  refine va_get (D := g.1) (ci := 4) (v := .ref (x 2)) (C := RX4) (T := TX4) (N := 7) hx hb hts i_X4 hown hK.1 hB_14.1 0 rfl rfl 3 (by decide) (hts _ w_178) (fun _ h9 => h9) rfl dX4_areaWithCutOff_26 ?_
  refine lv_aload_n hx hb dX4_areaWithCutOff_29 rfl (lvG hl rfl) ?_
  refine va_get (D := g.1) (ci := 4) (v := .ref (x 5)) (C := RX4) (T := TX4) (N := 7) hx hb hts i_X4 hown hK.1 hB_14.1 0 rfl rfl 4 (by decide) (hts _ w_179) (fun _ h9 => h9) rfl dX4_areaWithCutOff_30 ?_
  refine lv_iconst (v := nI 0) hx hb dX4_areaWithCutOff_33 (by decide) ?_
  refine k_callMV0 (k_goV (rest := []) hC hK (c_X4_drawIdealCard l g x a n f (x 5) (f 12) co (f 14) (f 15) (x 2) (x 3) (x 4) (nI 0) (nI 0) tr ((fun k => tr (21 + k))) (nI 0) (fun c => absurd (hD.1 0 1 _ _ rfl rfl c) (by decide))) L_X4_X4_drawIdealCard (⟨⟨Nat.le_of_ble_eq_true rfl, Nat.le_of_ble_eq_true rfl⟩, ⟨rfl, rfl⟩, ⟨Nat.le_of_ble_eq_true rfl, Nat.le_of_ble_eq_true rfl⟩⟩) (k_recv hK hB_14.1 0 rfl rfl) (⟨XKd (va_P.app (hB_14.1.sub [0, 1] rfl) (va_P.app (hP_11.sub [2] rfl) (hB_14.1.sub [5] rfl))) (hB_14.2.1 0 _ rfl) (hB_14.2.1 1 _ rfl) (fun c => c.elim (fun c => absurd (hD_12.1 2 0 _ _ rfl rfl c) (by decide)) (fun c => absurd (hD_12.1 2 1 _ _ rfl rfl c) (by decide))) (hB_14.2.1 5 _ rfl), (hP_11.sub [0, 1] rfl)⟩) rfl hl.1 rfl (Nat.le_of_ble_eq_true rfl) dX4_areaWithCutOff_34) hS_13 (fun q c => sc_34 c) (fun H_15 locs_16 hQ_17 hz_ hk_19 hS_18 => ?_)
  have hT_20 : va_P g.1 kCl [cI g (x 3) 21 (k_tc tr (k_do f (f 12) co (f 14) (nI 0)) (k_di f (f 15))), cI g (x 4) 21 ((fun k => k_tc tr (k_do f (f 12) co (f 14) (nI 0)) (k_di f (f 15)) (21 + k))), (x 5, .inr (2, [.int (f 12), .int (co), .int (f 14), .int (f 15)])), (x 6, .inr (2, [.int (fo 0), .int (fo 1), .int (fo 2), .int (fo 3)])), cI g (x 7) 10 so] H_15 := PTd (PT01 hP_11 hD_12 hQ_17 hk_19)
  have hD_21 : va_D (SC x) [cI g (x 3) 21 (k_tc tr (k_do f (f 12) co (f 14) (nI 0)) (k_di f (f 15))), cI g (x 4) 21 ((fun k => k_tc tr (k_do f (f 12) co (f 14) (nI 0)) (k_di f (f 15)) (21 + k))), (x 5, .inr (2, [.int (f 12), .int (co), .int (f 14), .int (f 15)])), (x 6, .inr (2, [.int (fo 0), .int (fo 1), .int (fo 2), .int (fo 3)])), cI g (x 7) 10 so] := va_D_re hD_12
  have hB_22 : XB g x a n f cn rf H_15 := hB.at hS_18
  refine lv_aload_n hx hb dX4_areaWithCutOff_37 rfl (lvG hl rfl) ?_
  refine va_get (D := g.1) (ci := 4) (v := .ref (x 2)) (C := RX4) (T := TX4) (N := 7) hx hb hts i_X4 hown hK.1 hB_22.1 0 rfl rfl 3 (by decide) (hts _ w_178) (fun _ h9 => h9) rfl dX4_areaWithCutOff_38 ?_
  refine k_callPI (k_goV (rest := []) hC hK (c_X0_wholeArea l g (x 2) (x 3) (x 4) (nI 0) (nI 0) (k_tc tr (k_do f (f 12) co (f 14) (nI 0)) (k_di f (f 15)))) L_X4_X0_wholeArea (⟨⟨Nat.le_of_ble_eq_true rfl, Nat.le_of_ble_eq_true rfl⟩, ⟨rfl, rfl⟩, ⟨Nat.le_of_ble_eq_true rfl, Nat.le_of_ble_eq_true rfl⟩⟩) (k_recv hK hB_22.1 5 rfl rfl) ((va_P.app (hB_22.1.sub [5] rfl) (hT_20.sub [0, 1] rfl))) rfl hl.1 rfl (Nat.le_of_ble_eq_true rfl) dX4_areaWithCutOff_41) ?_
  exact k_iretM hC hr hlk hS_18 dX4_areaWithCutOff_44 (⟨tc_ic f tr 12 co, XTS (tr := k_tc tr (k_do f (f 12) co (f 14) (nI 0)) (k_di f (f 15))) (te := fun k => if k = 0 then f 12 else if k = 1 then co else if k = 2 then f 14 else f 15) (fo := fo) (so := so) ⟨hT_20, hD_21⟩⟩)
