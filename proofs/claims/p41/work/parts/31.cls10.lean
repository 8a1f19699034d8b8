theorem vp_eq {cA : ClassId} {n : Nat} {h h' : Nat → Int32} (e : ∀ k, k < n → h k = h' k) : vp_cell cA (n, .inl h) = vp_cell cA (n, .inl h') := by
  rw [vp_cell_i, vp_cell_i]
  unfold arrV
  have : (Array.ofFn (n := n) fun j => Value.int (h j.val)) = Array.ofFn (n := n) fun j => Value.int (h' j.val) := by
    congr 1
    funext j
    rw [e j.val j.isLt]
  rw [this]
theorem XT.congr {g : kG} {x : Nat → Nat} {tr te fo so tr' so' : Nat → Int32} {H : Heap} (h : XT g x tr te fo so H) (e1 : ∀ k, k < 42 → tr k = tr' k) (e2 : ∀ k, k < 10 → so k = so' k) : XT g x tr' te fo so' H := by
  obtain ⟨h1, h2, h3⟩ := h
  refine ⟨fun k q hq => ?_, fun i j p q hi hj hpq => ?_, fun k q hq => ?_⟩
  · match k, hq with
    | 0, hq => cases hq; have := h1 0 _ rfl; exact this.trans (congrArg some (vp_eq (fun k hk => e1 k (by omega))))
    | 1, hq => cases hq; have := h1 1 _ rfl; exact this.trans (congrArg some (vp_eq (fun k hk => e1 (21 + k) (by omega))))
    | 2, hq => cases hq; exact h1 2 _ rfl
    | 3, hq => cases hq; exact h1 3 _ rfl
    | 4, hq => cases hq; have := h1 4 _ rfl; exact this.trans (congrArg some (vp_eq e2))
    | k + 5, hq => simp at hq
  · have key : ∀ (i : Nat) (p : Nat × va_E), (wT g x tr' te fo so')[i]? = some p → ∃ p', (wT g x tr te fo so)[i]? = some p' ∧ p'.1 = p.1 := by
      intro i p hi
      match i, hi with
      | 0, hi => cases hi; exact ⟨_, rfl, rfl⟩
      | 1, hi => cases hi; exact ⟨_, rfl, rfl⟩
      | 2, hi => cases hi; exact ⟨_, rfl, rfl⟩
      | 3, hi => cases hi; exact ⟨_, rfl, rfl⟩
      | 4, hi => cases hi; exact ⟨_, rfl, rfl⟩
      | i + 5, hi => simp at hi
    obtain ⟨p', a1, a2⟩ := key i p hi
    obtain ⟨q', b1, b2⟩ := key j q hj
    exact h2 i j p' q' a1 b1 (a2.trans (hpq.trans b2.symm))
  · match k, hq with
    | 0, hq => cases hq; exact h3 0 (cI g (x 3) 21 tr) rfl
    | 1, hq => cases hq; exact h3 1 (cI g (x 4) 21 (fun k => tr (21 + k))) rfl
    | 2, hq => cases hq; exact h3 2 _ rfl
    | 3, hq => cases hq; exact h3 3 _ rfl
    | 4, hq => cases hq; exact h3 4 (cI g (x 7) 10 so) rfl
    | k + 5, hq => simp at hq
def prs (x : Int32) : Prop := 0 ≤ x.toInt ∧ x.toInt ≤ 5000
theorem sc_in {f : Nat → Int32} {cn : Nat} (hcn : cn ≤ 10) (en : Int32) {t : Nat} (ht : t < 42) (hp : ∀ j, j < cn → ∀ k, k < 42 → prs (s_pt f j k)) : ∀ m : Nat, m ≤ cn → 0 ≤ (s_sc f en t m).toInt ∧ (s_sc f en t m).toInt ≤ 5000 * (m : Int)
  | 0, _ => by unfold s_sc; decide
  | m + 1, hm => by
    obtain ⟨a1, a2⟩ := sc_in hcn en ht hp m (by omega)
    obtain ⟨b1, b2⟩ := hp m (by omega) t ht
    have hz : (nI 0).toInt = 0 := rfl
    unfold s_sc
    split
    · rw [fb_addI (by omega) (by omega)]; omega
    · rw [fb_addI (by rw [hz]; omega) (by rw [hz]; omega), hz]; omega
theorem mv_eq {f : Nat → Int32} {cn : Nat} (hcn : cn ≤ 10) (en : Int32) {t : Nat} (ht : t < 42) (hp : ∀ j, j < cn → ∀ k, k < 42 → prs (s_pt f j k)) (hm : 0 < s_mn f en cn) : q_i (s_sc f en t cn) (nI (s_mn f en cn)) = s_mv f en cn t := by
  have h1 := sc_in hcn en ht hp cn (Nat.le_refl _)
  have h2 := s_mn_le f en cn
  exact q_i_pos h1.1 (by rw [nI_toInt (by omega)]; omega)
theorem va_D_re {A : Nat → Prop} {y0 y1 y2 y3 y4 : Nat} {e0 e1 e2 e3 e4 e0' e1' e2' e3' e4' : va_E} (h : va_D A [(y0, e0), (y1, e1), (y2, e2), (y3, e3), (y4, e4)]) : va_D A [(y0, e0'), (y1, e1'), (y2, e2'), (y3, e3'), (y4, e4')] := by
  have key : ∀ (i : Nat) (p : Nat × va_E), [(y0, e0'), (y1, e1'), (y2, e2'), (y3, e3'), (y4, e4')][i]? = some p → ∃ p', [(y0, e0), (y1, e1), (y2, e2), (y3, e3), (y4, e4)][i]? = some p' ∧ p'.1 = p.1 := by
    intro i p hi
    match i, hi with
    | 0, hi => cases hi; exact ⟨_, rfl, rfl⟩
    | 1, hi => cases hi; exact ⟨_, rfl, rfl⟩
    | 2, hi => cases hi; exact ⟨_, rfl, rfl⟩
    | 3, hi => cases hi; exact ⟨_, rfl, rfl⟩
    | 4, hi => cases hi; exact ⟨_, rfl, rfl⟩
    | i + 5, hi => simp at hi
  refine ⟨fun i j p q hi hj hpq => ?_, fun k q hq => ?_⟩
  · obtain ⟨p', a1, a2⟩ := key i p hi
    obtain ⟨q', b1, b2⟩ := key j q hj
    exact h.1 i j p' q' a1 b1 (a2.trans (hpq.trans b2.symm))
  · obtain ⟨q', b1, b2⟩ := key k q hq
    rw [← b2]
    exact h.2 k q' b1
theorem add_n0 (v : Int32) : v + nI 0 = v := Int32.add_zero v
theorem XTm0 {g : kG} {x : Nat → Nat} {tr te fo so F h : Nat → Int32} {H : Heap} (h1 : va_P g.1 kCl [cI g (x 3) 21 F, cI g (x 4) 21 (fun k => tr (21 + k)), cE (x 5) (te 0) (te 1) (te 2) (te 3), cE (x 6) (fo 0) (fo 1) (fo 2) (fo 3), cI g (x 7) 10 so] H) (h2 : va_D (SC x) [cI g (x 3) 21 F, cI g (x 4) 21 (fun k => tr (21 + k)), cE (x 5) (te 0) (te 1) (te 2) (te 3), cE (x 6) (fo 0) (fo 1) (fo 2) (fo 3), cI g (x 7) 10 so]) (hF : F = s_fl tr 0 h 21) : XT g x (s_fl tr 0 h 21) te fo so H := by
  have e : (fun k => tr (21 + k)) = fun k => s_fl tr 0 h 21 (21 + k) := by funext k; exact (s_fl_out _ _ _ _ _ (by omega)).symm
  subst hF
  rw [e] at h1 h2
  exact ⟨h1, h2⟩
theorem XTm1 {g : kG} {x : Nat → Nat} {tr te fo so F h : Nat → Int32} {H : Heap} (h1 : va_P g.1 kCl [cI g (x 3) 21 tr, cI g (x 4) 21 F, cE (x 5) (te 0) (te 1) (te 2) (te 3), cE (x 6) (fo 0) (fo 1) (fo 2) (fo 3), cI g (x 7) 10 so] H) (h2 : va_D (SC x) [cI g (x 3) 21 tr, cI g (x 4) 21 F, cE (x 5) (te 0) (te 1) (te 2) (te 3), cE (x 6) (fo 0) (fo 1) (fo 2) (fo 3), cI g (x 7) 10 so]) (hF : F = s_fl (fun k => tr (21 + k)) 0 h 21) : XT g x (s_fl tr 21 h 21) te fo so H := by
  have e : s_fl (fun k => tr (21 + k)) 0 h 21 = fun k => (fun k => if k < 21 then tr k else s_fl (fun k => tr (21 + k)) 0 h 21 (k - 21)) (21 + k) := by
    funext k
    show _ = if 21 + k < 21 then _ else _
    rw [if_neg (by omega), Nat.add_sub_cancel_left]
  subst hF
  rw [e] at h1 h2
  have h3 : XT g x (fun k => if k < 21 then tr k else s_fl (fun k => tr (21 + k)) 0 h 21 (k - 21)) te fo so H := by
    refine XT.congr (tr := fun k => if k < 21 then tr k else s_fl (fun k => tr (21 + k)) 0 h 21 (k - 21)) (so := so) ⟨?_, ?_⟩ (fun _ _ => rfl) (fun _ _ => rfl)
    · intro k q hq
      match k, hq with
      | 0, hq => cases hq; have := h1 0 _ rfl; exact this.trans (congrArg some (vp_eq (fun k hk => (if_pos hk).symm)))
      | 1, hq => cases hq; exact h1 1 _ rfl
      | 2, hq => cases hq; exact h1 2 _ rfl
      | 3, hq => cases hq; exact h1 3 _ rfl
      | 4, hq => cases hq; exact h1 4 _ rfl
      | k + 5, hq => simp at hq
    · exact va_D_re h2
  refine h3.congr (fun k hk => ?_) (fun _ _ => rfl)
  by_cases c : k < 21
  · rw [if_pos c, s_fl_out _ _ _ _ _ (by omega)]
  · rw [if_neg c, show s_fl tr 21 h 21 k = h (k - 21) by { unfold s_fl; rw [if_pos (by omega)] }]
    unfold s_fl
    rw [if_pos (by omega), Nat.sub_zero]
set_option maxHeartbeats 4000000 in
set_option maxRecDepth 100000 in
theorem c_X4_drawMean0 (l : Launch) (g : kG) (x : Nat → Nat) (a : Nat → Nat) (n : Nat) (f : Nat → Int32) (cn : Nat) (rf : Nat → Option Nat) (tr : Nat → Int32) (te : Nat → Int32) (fo : Nat → Int32) (so : Nat → Int32) (hc : f 61 = nI cn) (hcn : cn ≤ 10) (en : Int32) (hp0 : ∀ j, j < cn → ∀ k, k < 42 → prs (s_pt f j k)) (hm : 0 < s_mn f en cn) : MV l yX4_drawMeanPressures cX4_drawMeanPressures 8 none (rr 2 43) [.ref (x 0), .int (en), .int (nI 0)] ((fun H => XB g x a n f cn rf H ∧ XT g x tr te fo so H)) g 0 0 (SC x) (fun H1 => XT g x (s_fl tr 0 (fun k => s_mv f en cn k) 21) te fo so H1) := by
  refine kOf (by decide) (Nat.le_of_ble_eq_true rfl) (fun p e s m below meth c ls hC hr hlk hin hK hP hl => ?_)
  have hx := hC.1
  have hb := hC.2.1
  have hml := hC.2.2.1
  have hown := hC.2.2.2.1
  have hts := hC.2.2.2.2
  have hl : lv_has ls 8 [(0, .ref (x 0)), (1, .int (en)), (2, .int (nI 0))] := hl
  obtain ⟨hB, ⟨hT, hD⟩⟩ := hP
  have hS : va_S (SC x) s.heap s.heap [] := va_S.rf
  refine lv_aload_n hx hb dX4_drawMeanPressures_0 rfl (lvG hl rfl) ?_
  refine lv_iload_n hx hb dX4_drawMeanPressures_1 rfl (lvG hl rfl) ?_
  refine k_callPI (k_goV (rest := []) hC hK (c_X4_countCards l g x a n f cn rf hc hcn en) L_X4_X4_countCards (⟨⟨Nat.le_of_ble_eq_true rfl, Nat.le_of_ble_eq_true rfl⟩, ⟨rfl, rfl⟩, ⟨Nat.le_of_ble_eq_true rfl, Nat.le_of_ble_eq_true rfl⟩⟩) (k_recv hK hB.1 0 rfl rfl) (hB) rfl hl.1 rfl (Nat.le_of_ble_eq_true rfl) dX4_drawMeanPressures_2) ?_
  refine lv_istore_n (lv' := [(3, .int (nI (s_mn f en cn))), (0, .ref (x 0)), (1, .int (en)), (2, .int (nI 0))]) hx hb dX4_drawMeanPressures_5 rfl hl (by decide) rfl (fun ls hl => ?_)
  refine lv_aload_n hx hb dX4_drawMeanPressures_6 rfl (lvG hl rfl) ?_
  refine va_get (D := g.1) (ci := 4) (v := .ref (x 2)) (C := RX4) (T := TX4) (N := 7) hx hb hts i_X4 hown hK.1 hB.1 0 rfl rfl 3 (by decide) (hts _ w_178) (fun _ h9 => h9) rfl dX4_drawMeanPressures_7 ?_
  refine lv_iload_n hx hb dX4_drawMeanPressures_10 rfl (lvG hl rfl) ?_
  refine k_callPR (k_goV (rest := []) hC hK (c_X0_pressuresOf l g (x 2) (x 3) (x 4) (nI 0) (nI 0) tr (nI 0)) L_X4_X0_pressuresOf (⟨⟨Nat.le_of_ble_eq_true rfl, Nat.le_of_ble_eq_true rfl⟩, ⟨rfl, rfl⟩, ⟨Nat.le_of_ble_eq_true rfl, Nat.le_of_ble_eq_true rfl⟩⟩) (k_recv hK hB.1 5 rfl rfl) ((va_P.app (hB.1.sub [5] rfl) (hT.sub [0, 1] rfl))) rfl hl.1 rfl (Nat.le_of_ble_eq_true rfl) dX4_drawMeanPressures_11) ?_
  rw [if_pos (show nI 0 = nI 0 from rfl)]
  refine lv_astore (lv' := [(4, .ref (x 3)), (3, .int (nI (s_mn f en cn))), (0, .ref (x 0)), (1, .int (en)), (2, .int (nI 0))]) hx hb dX4_drawMeanPressures_14 hl (by decide) rfl (fun ls hl => ?_)
  refine lv_iconst (v := nI 0) hx hb dX4_drawMeanPressures_16 (by decide) ?_
  refine lv_istore (lv' := [(5, .int (nI 0)), (4, .ref (x 3)), (3, .int (nI (s_mn f en cn))), (0, .ref (x 0)), (1, .int (en)), (2, .int (nI 0))]) hx hb dX4_drawMeanPressures_17 hl (by decide) rfl (fun ls hl => ?_)
  have key_1 : ∀ (k_2 : Nat) (zs : Nat) (F9 : Nat → Int32) (H9 : Heap) (locs9 : List Loc) (hT9 : va_P g.1 kCl [cI g (x 3) 21 F9, cI g (x 4) 21 ((fun k => tr (21 + k))), (x 5, .inr (2, [.int (te 0), .int (te 1), .int (te 2), .int (te 3)])), (x 6, .inr (2, [.int (fo 0), .int (fo 1), .int (fo 2), .int (fo 3)])), cI g (x 7) 10 so] H9) (hD9 : va_D (SC x) [cI g (x 3) 21 F9, cI g (x 4) 21 ((fun k => tr (21 + k))), (x 5, .inr (2, [.int (te 0), .int (te 1), .int (te 2), .int (te 3)])), (x 6, .inr (2, [.int (fo 0), .int (fo 1), .int (fo 2), .int (fo 3)])), cI g (x 7) 10 so]) (hS9 : va_S (SC x) s.heap H9 locs9) (hz : zs ≤ 21) (hF : F9 = s_fl tr 0 (fun k => s_mv f en cn k) zs) (hk_k_2 : 21 - zs < k_2) (ls : Array Slot) (hl : lv_has ls 8 [(5, .int (nI zs)), (4, .ref (x 3)), (3, .int (nI (s_mn f en cn))), (0, .ref (x 0)), (1, .int (en)), (2, .int (nI 0))]), W p l e (rr 2 43) s m [.ref (x 0), .int (en), .int (nI 0)].toArray below meth c H9 locs9 0 0 (MQ below (qV (SC x) (fun H1 => XT g x (s_fl tr 0 (fun k => s_mv f en cn k) 21) te fo so H1)) [.ref (x 0), .int (en), .int (nI 0)].toArray s 0 0 (SC x)) (F0 m 19 ls ([])) := by
    intro k_2
    induction k_2 with
    | zero => intro zs F9 H9 locs9 hT9 hD9 hS9 hz hF hk_k_2 ls hl; exact absurd hk_k_2 (Nat.not_lt_zero _)
    | succ k_2 ih_3 =>
      intro zs F9 H9 locs9 hT9 hD9 hS9 hz hF hk_k_2 ls hl
      have hB9 : XB g x a n f cn rf H9 := hB.at hS9
      refine lv_iload hx hb dX4_drawMeanPressures_19 (lvG hl rfl) ?_
      refine lv_bipush (v := nI 21) hx hb dX4_drawMeanPressures_21 (by decide) ?_
      refine n_icmp_ge (tgt := 106) hC dX4_drawMeanPressures_23 (by omega) (by omega) (by decide) (fun zc23 => ?_) (fun zc23 => ?_)
      · exact k_vretM hC hr hlk hS9 dX4_drawMeanPressures_106 (XTm0 hT9 hD9 (by rw [hF, show zs = 21 by omega]))
      · refine lv_iconst (v := nI 0) hx hb dX4_drawMeanPressures_26 (by decide) ?_
        refine lv_istore (lv' := [(6, .int (nI 0)), (5, .int (nI zs)), (4, .ref (x 3)), (3, .int (nI (s_mn f en cn))), (0, .ref (x 0)), (1, .int (en)), (2, .int (nI 0))]) hx hb dX4_drawMeanPressures_27 hl (by decide) rfl (fun ls hl => ?_)
        refine lv_iconst (v := nI 0) hx hb dX4_drawMeanPressures_29 (by decide) ?_
        refine lv_istore (lv' := [(7, .int (nI 0)), (6, .int (nI 0)), (5, .int (nI zs)), (4, .ref (x 3)), (3, .int (nI (s_mn f en cn))), (0, .ref (x 0)), (1, .int (en)), (2, .int (nI 0))]) hx hb dX4_drawMeanPressures_30 hl (by decide) rfl (fun ls hl => ?_)
        have key_4 : ∀ (k_5 : Nat) (zi : Nat) (sm : Int32)  (hi : zi ≤ cn) (hsm : sm = s_sc f en zs zi) (hk_k_5 : cn - zi < k_5) (ls : Array Slot) (hl : lv_has ls 8 [(7, .int (nI zi)), (6, .int (sm)), (5, .int (nI zs)), (4, .ref (x 3)), (3, .int (nI (s_mn f en cn))), (0, .ref (x 0)), (1, .int (en)), (2, .int (nI 0))]), W p l e (rr 2 43) s m [.ref (x 0), .int (en), .int (nI 0)].toArray below meth c H9 locs9 0 0 (MQ below (qV (SC x) (fun H1 => XT g x (s_fl tr 0 (fun k => s_mv f en cn k) 21) te fo so H1)) [.ref (x 0), .int (en), .int (nI 0)].toArray s 0 0 (SC x)) (F0 m 32 ls ([])) := by
          intro k_5
          induction k_5 with
          | zero => intro zi sm hi hsm hk_k_5 ls hl; exact absurd hk_k_5 (Nat.not_lt_zero _)
          | succ k_5 ih_6 =>
            intro zi sm hi hsm hk_k_5 ls hl
            refine lv_iload hx hb dX4_drawMeanPressures_32 (lvG hl rfl) ?_
            refine lv_aload_n hx hb dX4_drawMeanPressures_34 rfl (lvG hl rfl) ?_
            refine va_get (D := g.1) (ci := 4) (v := .ref (a 0)) (C := RX4) (T := TX4) (N := 7) hx hb hts i_X4 hown hK.1 hB9.1 0 rfl rfl 0 (by decide) (hts _ w_175) (fun _ h9 => h9) rfl dX4_drawMeanPressures_35 ?_
            refine va_get (D := g.1) (ci := 3) (v := .int (f 61)) (C := RX3) (T := TX3) (N := 13) hx hb hts i_X3 hown hK.1 hB9.1 1 rfl rfl 12 (by decide) (hts _ w_146) (fun _ h9 => h9) rfl dX4_drawMeanPressures_38 ?_
            rw [hc]
            refine n_icmp_ge (tgt := 89) hC dX4_drawMeanPressures_41 (by omega) (by omega) (by decide) (fun zc41 => ?_) (fun zc41 => ?_)
            · refine lv_aload hx hb dX4_drawMeanPressures_89 (lvG hl rfl) ?_
              refine lv_iload hx hb dX4_drawMeanPressures_91 (lvG hl rfl) ?_
              refine lv_iload hx hb dX4_drawMeanPressures_93 (lvG hl rfl) ?_
              refine lv_iload_n hx hb dX4_drawMeanPressures_95 rfl (lvG hl rfl) ?_
              refine k_callPI (k_goS (rest := [.int (nI zs), .ref (x 3)]) hC hK (c_X4_quotient l g sm (nI (s_mn f en cn))) L_X4_X4_quotient (⟨⟨Nat.le_of_ble_eq_true rfl, Nat.le_of_ble_eq_true rfl⟩, ⟨rfl, rfl⟩, ⟨Nat.le_of_ble_eq_true rfl, Nat.le_of_ble_eq_true rfl⟩⟩) (trivial) rfl hl.1 rfl (Nat.le_of_ble_eq_true rfl) dX4_drawMeanPressures_96) ?_
              rw [hsm, show zi = cn by omega, mv_eq hcn en (t := zs) (by omega) hp0 hm]
              refine k_ast (k := zs) (v := s_mv f en cn zs) hC hK hT9 hD9 hS9 0 rfl (by omega) (by decide) dX4_drawMeanPressures_99 (fun H_7 locs_8 hP_9 hD_10 hS_11 => ?_)
              have hP_9 : va_P g.1 kCl [cI g (x 3) 21 (upd F9 zs (s_mv f en cn zs)), cI g (x 4) 21 ((fun k => tr (21 + k))), (x 5, .inr (2, [.int (te 0), .int (te 1), .int (te 2), .int (te 3)])), (x 6, .inr (2, [.int (fo 0), .int (fo 1), .int (fo 2), .int (fo 3)])), cI g (x 7) 10 so] H_7 := hP_9
              have hD_10 : va_D (SC x) [cI g (x 3) 21 (upd F9 zs (s_mv f en cn zs)), cI g (x 4) 21 ((fun k => tr (21 + k))), (x 5, .inr (2, [.int (te 0), .int (te 1), .int (te 2), .int (te 3)])), (x 6, .inr (2, [.int (fo 0), .int (fo 1), .int (fo 2), .int (fo 3)])), cI g (x 7) 10 so] := hD_10
              have hB_12 : XB g x a n f cn rf H_7 := hB.at hS_11
              refine n_iinc (lv' := [(5, .int (nI (zs + 1))), (7, .int (nI zi)), (6, .int (sm)), (4, .ref (x 3)), (3, .int (nI (s_mn f en cn))), (0, .ref (x 0)), (1, .int (en)), (2, .int (nI 0))]) hC dX4_drawMeanPressures_100 hl rfl (by decide) rfl (fun ls hl => ?_)
              refine lv_goto (tgt := 19) hx hb dX4_drawMeanPressures_103 (by decide) ?_
              exact ih_3 (zs + 1) (upd F9 zs (s_mv f en cn zs)) _ _ hP_9 hD_10 hS_11 (by first | omega | assumption | rfl) (by rw [hF]; have := s_fl_succ tr 0 (fun k => s_mv f en cn k) zs; rw [Nat.zero_add] at this; exact this) (by omega) ls (lv_sub hl [0, 3, 4, 5, 6, 7] rfl)
            · obtain ⟨qj, qoj, qij, hrf, hcd, hn1, hn2, hn3⟩ := hB9.2.2 zi (by first | assumption | omega)
              refine lv_aload_n hx hb dX4_drawMeanPressures_44 rfl (lvG hl rfl) ?_
              refine va_get (D := g.1) (ci := 4) (v := .ref (a 0)) (C := RX4) (T := TX4) (N := 7) hx hb hts i_X4 hown hK.1 hB9.1 0 rfl rfl 0 (by decide) (hts _ w_175) (fun _ h9 => h9) rfl dX4_drawMeanPressures_45 ?_
              refine va_get (D := g.1) (ci := 3) (v := .ref (a 6)) (C := RX3) (T := TX3) (N := 13) hx hb hts i_X3 hown hK.1 hB9.1 1 rfl rfl 11 (by decide) (hts _ w_144) (fun _ h9 => h9) rfl dX4_drawMeanPressures_48 ?_
              refine lv_iload hx hb dX4_drawMeanPressures_51 (lvG hl rfl) ?_
              refine q_ald (k := zi) (b := qj) hC hK hB9.1 4 rfl (by omega) (by decide) (hrf) dX4_drawMeanPressures_53 ?_
              refine va_get (D := g.1) (ci := 0) (v := .int (f (62 + 44 * zi))) (C := RX0) (T := TX0) (N := 4) hx hb hts i_X0 hown hK.1 hcd 0 rfl rfl 0 (by decide) (hts _ w_46) (fun _ h9 => h9) rfl dX4_drawMeanPressures_54 ?_
              refine lv_iload_n hx hb dX4_drawMeanPressures_57 rfl (lvG hl rfl) ?_
              refine lv_icmp_ne (tgt := 83) hx hb dX4_drawMeanPressures_58 (by decide) (fun zc58 => ?_) (fun zc58 => ?_)
              · refine n_iinc (lv' := [(7, .int (nI (zi + 1))), (6, .int (sm)), (5, .int (nI zs)), (4, .ref (x 3)), (3, .int (nI (s_mn f en cn))), (0, .ref (x 0)), (1, .int (en)), (2, .int (nI 0))]) hC dX4_drawMeanPressures_83 hl rfl (by decide) rfl (fun ls hl => ?_)
                refine lv_goto (tgt := 32) hx hb dX4_drawMeanPressures_86 (by decide) ?_
                exact ih_6 (zi + 1) sm  (by first | omega | assumption | rfl) (by unfold s_sc; rw [← hsm]; first | (rw [if_pos zc58]; done) | (rw [if_neg zc58]; exact (add_n0 _).symm)) (by omega) ls (lv_sub hl [0, 1, 2, 3, 4, 5, 6, 7] rfl)
              · refine lv_iload hx hb dX4_drawMeanPressures_61 (lvG hl rfl) ?_
                refine lv_aload_n hx hb dX4_drawMeanPressures_63 rfl (lvG hl rfl) ?_
                refine va_get (D := g.1) (ci := 4) (v := .ref (a 0)) (C := RX4) (T := TX4) (N := 7) hx hb hts i_X4 hown hK.1 hB9.1 0 rfl rfl 0 (by decide) (hts _ w_175) (fun _ h9 => h9) rfl dX4_drawMeanPressures_64 ?_
                refine va_get (D := g.1) (ci := 3) (v := .ref (a 6)) (C := RX3) (T := TX3) (N := 13) hx hb hts i_X3 hown hK.1 hB9.1 1 rfl rfl 11 (by decide) (hts _ w_144) (fun _ h9 => h9) rfl dX4_drawMeanPressures_67 ?_
                refine lv_iload hx hb dX4_drawMeanPressures_70 (lvG hl rfl) ?_
                refine q_ald (k := zi) (b := qj) hC hK hB9.1 4 rfl (by omega) (by decide) (hrf) dX4_drawMeanPressures_72 ?_
                refine lv_iload_n hx hb dX4_drawMeanPressures_73 rfl (lvG hl rfl) ?_
                refine k_callPR (k_goV (rest := [.int (sm)]) hC hK (c_X0_pressuresOf l g qj qoj qij (f (62 + 44 * zi)) (f (62 + 44 * zi + 1)) ((s_pt f zi)) (nI 0)) L_X4_X0_pressuresOf (⟨⟨Nat.le_of_ble_eq_true rfl, Nat.le_of_ble_eq_true rfl⟩, ⟨rfl, rfl⟩, ⟨Nat.le_of_ble_eq_true rfl, Nat.le_of_ble_eq_true rfl⟩⟩) (k_recv hK hcd 0 rfl rfl) (hcd) rfl hl.1 rfl (Nat.le_of_ble_eq_true rfl) dX4_drawMeanPressures_74) ?_
                rw [if_pos (show nI 0 = nI 0 from rfl)]
                refine lv_iload hx hb dX4_drawMeanPressures_77 (lvG hl rfl) ?_
                refine k_ald (k := zs) hC hK hcd 1 rfl (by omega) (by decide) dX4_drawMeanPressures_79 ?_
                refine lv_iadd hx hb dX4_drawMeanPressures_80 ?_
                refine lv_istore (lv' := [(6, .int (sm + (((s_pt f zi)) zs))), (7, .int (nI zi)), (5, .int (nI zs)), (4, .ref (x 3)), (3, .int (nI (s_mn f en cn))), (0, .ref (x 0)), (1, .int (en)), (2, .int (nI 0))]) hx hb dX4_drawMeanPressures_81 hl (by decide) rfl (fun ls hl => ?_)
                refine n_iinc (lv' := [(7, .int (nI (zi + 1))), (6, .int (sm + (((s_pt f zi)) zs))), (5, .int (nI zs)), (4, .ref (x 3)), (3, .int (nI (s_mn f en cn))), (0, .ref (x 0)), (1, .int (en)), (2, .int (nI 0))]) hC dX4_drawMeanPressures_83 hl rfl (by decide) rfl (fun ls hl => ?_)
                refine lv_goto (tgt := 32) hx hb dX4_drawMeanPressures_86 (by decide) ?_
                exact ih_6 (zi + 1) (sm + (((s_pt f zi)) zs))  (by first | omega | assumption | rfl) (by unfold s_sc; rw [← hsm]; first | (rw [if_pos zc58]; done) | (rw [if_neg zc58]; exact (add_n0 _).symm)) (by omega) ls (lv_sub hl [0, 1, 2, 3, 4, 5, 6, 7] rfl)
        exact key_4 ((cn - 0) + 1) 0 (nI 0)  (by first | rfl | omega | assumption) (by first | rfl | omega | assumption) (Nat.lt_succ_self _) ls (lv_sub hl [0, 1, 2, 3, 4, 5, 6, 7] rfl)
  exact key_1 ((21 - 0) + 1) 0 tr _ _ hT hD hS (by first | rfl | omega | assumption) ((s_fl_0 _ _ _).symm) (Nat.lt_succ_self _) ls (lv_sub hl [0, 1, 2, 3, 4, 5] rfl)
set_option maxHeartbeats 4000000 in
set_option maxRecDepth 100000 in
theorem c_X4_drawMean1 (l : Launch) (g : kG) (x : Nat → Nat) (a : Nat → Nat) (n : Nat) (f : Nat → Int32) (cn : Nat) (rf : Nat → Option Nat) (tr : Nat → Int32) (te : Nat → Int32) (fo : Nat → Int32) (so : Nat → Int32) (hc : f 61 = nI cn) (hcn : cn ≤ 10) (en : Int32) (hp0 : ∀ j, j < cn → ∀ k, k < 42 → prs (s_pt f j k)) (hm : 0 < s_mn f en cn) : MV l yX4_drawMeanPressures cX4_drawMeanPressures 8 none (rr 2 43) [.ref (x 0), .int (en), .int (nI 1)] ((fun H => XB g x a n f cn rf H ∧ XT g x tr te fo so H)) g 0 0 (SC x) (fun H1 => XT g x (s_fl tr 21 (fun k => s_mv f en cn (21 + k)) 21) te fo so H1) := by
  refine kOf (by decide) (Nat.le_of_ble_eq_true rfl) (fun p e s m below meth c ls hC hr hlk hin hK hP hl => ?_)
  have hx := hC.1
  have hb := hC.2.1
  have hml := hC.2.2.1
  have hown := hC.2.2.2.1
  have hts := hC.2.2.2.2
  have hl : lv_has ls 8 [(0, .ref (x 0)), (1, .int (en)), (2, .int (nI 1))] := hl
  obtain ⟨hB, ⟨hT, hD⟩⟩ := hP
  have hS : va_S (SC x) s.heap s.heap [] := va_S.rf
  refine lv_aload_n hx hb dX4_drawMeanPressures_0 rfl (lvG hl rfl) ?_
  refine lv_iload_n hx hb dX4_drawMeanPressures_1 rfl (lvG hl rfl) ?_
  refine k_callPI (k_goV (rest := []) hC hK (c_X4_countCards l g x a n f cn rf hc hcn en) L_X4_X4_countCards (⟨⟨Nat.le_of_ble_eq_true rfl, Nat.le_of_ble_eq_true rfl⟩, ⟨rfl, rfl⟩, ⟨Nat.le_of_ble_eq_true rfl, Nat.le_of_ble_eq_true rfl⟩⟩) (k_recv hK hB.1 0 rfl rfl) (hB) rfl hl.1 rfl (Nat.le_of_ble_eq_true rfl) dX4_drawMeanPressures_2) ?_
  refine lv_istore_n (lv' := [(3, .int (nI (s_mn f en cn))), (0, .ref (x 0)), (1, .int (en)), (2, .int (nI 1))]) hx hb dX4_drawMeanPressures_5 rfl hl (by decide) rfl (fun ls hl => ?_)
  refine lv_aload_n hx hb dX4_drawMeanPressures_6 rfl (lvG hl rfl) ?_
  refine va_get (D := g.1) (ci := 4) (v := .ref (x 2)) (C := RX4) (T := TX4) (N := 7) hx hb hts i_X4 hown hK.1 hB.1 0 rfl rfl 3 (by decide) (hts _ w_178) (fun _ h9 => h9) rfl dX4_drawMeanPressures_7 ?_
  refine lv_iload_n hx hb dX4_drawMeanPressures_10 rfl (lvG hl rfl) ?_
  refine k_callPR (k_goV (rest := []) hC hK (c_X0_pressuresOf l g (x 2) (x 3) (x 4) (nI 0) (nI 0) tr (nI 1)) L_X4_X0_pressuresOf (⟨⟨Nat.le_of_ble_eq_true rfl, Nat.le_of_ble_eq_true rfl⟩, ⟨rfl, rfl⟩, ⟨Nat.le_of_ble_eq_true rfl, Nat.le_of_ble_eq_true rfl⟩⟩) (k_recv hK hB.1 5 rfl rfl) ((va_P.app (hB.1.sub [5] rfl) (hT.sub [0, 1] rfl))) rfl hl.1 rfl (Nat.le_of_ble_eq_true rfl) dX4_drawMeanPressures_11) ?_
  rw [if_neg (show ¬ nI 1 = nI 0 by decide)]
  refine lv_astore (lv' := [(4, .ref (x 4)), (3, .int (nI (s_mn f en cn))), (0, .ref (x 0)), (1, .int (en)), (2, .int (nI 1))]) hx hb dX4_drawMeanPressures_14 hl (by decide) rfl (fun ls hl => ?_)
  refine lv_iconst (v := nI 0) hx hb dX4_drawMeanPressures_16 (by decide) ?_
  refine lv_istore (lv' := [(5, .int (nI 0)), (4, .ref (x 4)), (3, .int (nI (s_mn f en cn))), (0, .ref (x 0)), (1, .int (en)), (2, .int (nI 1))]) hx hb dX4_drawMeanPressures_17 hl (by decide) rfl (fun ls hl => ?_)
  have key_1 : ∀ (k_2 : Nat) (zs : Nat) (F9 : Nat → Int32) (H9 : Heap) (locs9 : List Loc) (hT9 : va_P g.1 kCl [cI g (x 3) 21 tr, cI g (x 4) 21 F9, (x 5, .inr (2, [.int (te 0), .int (te 1), .int (te 2), .int (te 3)])), (x 6, .inr (2, [.int (fo 0), .int (fo 1), .int (fo 2), .int (fo 3)])), cI g (x 7) 10 so] H9) (hD9 : va_D (SC x) [cI g (x 3) 21 tr, cI g (x 4) 21 F9, (x 5, .inr (2, [.int (te 0), .int (te 1), .int (te 2), .int (te 3)])), (x 6, .inr (2, [.int (fo 0), .int (fo 1), .int (fo 2), .int (fo 3)])), cI g (x 7) 10 so]) (hS9 : va_S (SC x) s.heap H9 locs9) (hz : zs ≤ 21) (hF : F9 = s_fl (fun k => tr (21 + k)) 0 (fun k => s_mv f en cn (21 + k)) zs) (hk_k_2 : 21 - zs < k_2) (ls : Array Slot) (hl : lv_has ls 8 [(5, .int (nI zs)), (4, .ref (x 4)), (3, .int (nI (s_mn f en cn))), (0, .ref (x 0)), (1, .int (en)), (2, .int (nI 1))]), W p l e (rr 2 43) s m [.ref (x 0), .int (en), .int (nI 1)].toArray below meth c H9 locs9 0 0 (MQ below (qV (SC x) (fun H1 => XT g x (s_fl tr 21 (fun k => s_mv f en cn (21 + k)) 21) te fo so H1)) [.ref (x 0), .int (en), .int (nI 1)].toArray s 0 0 (SC x)) (F0 m 19 ls ([])) := by
    intro k_2
    induction k_2 with
    | zero => intro zs F9 H9 locs9 hT9 hD9 hS9 hz hF hk_k_2 ls hl; exact absurd hk_k_2 (Nat.not_lt_zero _)
    | succ k_2 ih_3 =>
      intro zs F9 H9 locs9 hT9 hD9 hS9 hz hF hk_k_2 ls hl
      have hB9 : XB g x a n f cn rf H9 := hB.at hS9
      refine lv_iload hx hb dX4_drawMeanPressures_19 (lvG hl rfl) ?_
      refine lv_bipush (v := nI 21) hx hb dX4_drawMeanPressures_21 (by decide) ?_
      refine n_icmp_ge (tgt := 106) hC dX4_drawMeanPressures_23 (by omega) (by omega) (by decide) (fun zc23 => ?_) (fun zc23 => ?_)
      · exact k_vretM hC hr hlk hS9 dX4_drawMeanPressures_106 (XTm1 hT9 hD9 (by rw [hF, show zs = 21 by omega]))
      · refine lv_iconst (v := nI 0) hx hb dX4_drawMeanPressures_26 (by decide) ?_
        refine lv_istore (lv' := [(6, .int (nI 0)), (5, .int (nI zs)), (4, .ref (x 4)), (3, .int (nI (s_mn f en cn))), (0, .ref (x 0)), (1, .int (en)), (2, .int (nI 1))]) hx hb dX4_drawMeanPressures_27 hl (by decide) rfl (fun ls hl => ?_)
        refine lv_iconst (v := nI 0) hx hb dX4_drawMeanPressures_29 (by decide) ?_
        refine lv_istore (lv' := [(7, .int (nI 0)), (6, .int (nI 0)), (5, .int (nI zs)), (4, .ref (x 4)), (3, .int (nI (s_mn f en cn))), (0, .ref (x 0)), (1, .int (en)), (2, .int (nI 1))]) hx hb dX4_drawMeanPressures_30 hl (by decide) rfl (fun ls hl => ?_)
        have key_4 : ∀ (k_5 : Nat) (zi : Nat) (sm : Int32)  (hi : zi ≤ cn) (hsm : sm = s_sc f en (21 + zs) zi) (hk_k_5 : cn - zi < k_5) (ls : Array Slot) (hl : lv_has ls 8 [(7, .int (nI zi)), (6, .int (sm)), (5, .int (nI zs)), (4, .ref (x 4)), (3, .int (nI (s_mn f en cn))), (0, .ref (x 0)), (1, .int (en)), (2, .int (nI 1))]), W p l e (rr 2 43) s m [.ref (x 0), .int (en), .int (nI 1)].toArray below meth c H9 locs9 0 0 (MQ below (qV (SC x) (fun H1 => XT g x (s_fl tr 21 (fun k => s_mv f en cn (21 + k)) 21) te fo so H1)) [.ref (x 0), .int (en), .int (nI 1)].toArray s 0 0 (SC x)) (F0 m 32 ls ([])) := by
          intro k_5
          induction k_5 with
          | zero => intro zi sm hi hsm hk_k_5 ls hl; exact absurd hk_k_5 (Nat.not_lt_zero _)
          | succ k_5 ih_6 =>
            intro zi sm hi hsm hk_k_5 ls hl
            refine lv_iload hx hb dX4_drawMeanPressures_32 (lvG hl rfl) ?_
            refine lv_aload_n hx hb dX4_drawMeanPressures_34 rfl (lvG hl rfl) ?_
            refine va_get (D := g.1) (ci := 4) (v := .ref (a 0)) (C := RX4) (T := TX4) (N := 7) hx hb hts i_X4 hown hK.1 hB9.1 0 rfl rfl 0 (by decide) (hts _ w_175) (fun _ h9 => h9) rfl dX4_drawMeanPressures_35 ?_
            refine va_get (D := g.1) (ci := 3) (v := .int (f 61)) (C := RX3) (T := TX3) (N := 13) hx hb hts i_X3 hown hK.1 hB9.1 1 rfl rfl 12 (by decide) (hts _ w_146) (fun _ h9 => h9) rfl dX4_drawMeanPressures_38 ?_
            rw [hc]
            refine n_icmp_ge (tgt := 89) hC dX4_drawMeanPressures_41 (by omega) (by omega) (by decide) (fun zc41 => ?_) (fun zc41 => ?_)
            · refine lv_aload hx hb dX4_drawMeanPressures_89 (lvG hl rfl) ?_
              refine lv_iload hx hb dX4_drawMeanPressures_91 (lvG hl rfl) ?_
              refine lv_iload hx hb dX4_drawMeanPressures_93 (lvG hl rfl) ?_
              refine lv_iload_n hx hb dX4_drawMeanPressures_95 rfl (lvG hl rfl) ?_
              refine k_callPI (k_goS (rest := [.int (nI zs), .ref (x 4)]) hC hK (c_X4_quotient l g sm (nI (s_mn f en cn))) L_X4_X4_quotient (⟨⟨Nat.le_of_ble_eq_true rfl, Nat.le_of_ble_eq_true rfl⟩, ⟨rfl, rfl⟩, ⟨Nat.le_of_ble_eq_true rfl, Nat.le_of_ble_eq_true rfl⟩⟩) (trivial) rfl hl.1 rfl (Nat.le_of_ble_eq_true rfl) dX4_drawMeanPressures_96) ?_
              rw [hsm, show zi = cn by omega, mv_eq hcn en (t := (21 + zs)) (by omega) hp0 hm]
              refine k_ast (k := zs) (v := s_mv f en cn (21 + zs)) hC hK hT9 hD9 hS9 1 rfl (by omega) (by decide) dX4_drawMeanPressures_99 (fun H_7 locs_8 hP_9 hD_10 hS_11 => ?_)
              have hP_9 : va_P g.1 kCl [cI g (x 3) 21 tr, cI g (x 4) 21 (upd F9 zs (s_mv f en cn (21 + zs))), (x 5, .inr (2, [.int (te 0), .int (te 1), .int (te 2), .int (te 3)])), (x 6, .inr (2, [.int (fo 0), .int (fo 1), .int (fo 2), .int (fo 3)])), cI g (x 7) 10 so] H_7 := hP_9
              have hD_10 : va_D (SC x) [cI g (x 3) 21 tr, cI g (x 4) 21 (upd F9 zs (s_mv f en cn (21 + zs))), (x 5, .inr (2, [.int (te 0), .int (te 1), .int (te 2), .int (te 3)])), (x 6, .inr (2, [.int (fo 0), .int (fo 1), .int (fo 2), .int (fo 3)])), cI g (x 7) 10 so] := hD_10
              have hB_12 : XB g x a n f cn rf H_7 := hB.at hS_11
              refine n_iinc (lv' := [(5, .int (nI (zs + 1))), (7, .int (nI zi)), (6, .int (sm)), (4, .ref (x 4)), (3, .int (nI (s_mn f en cn))), (0, .ref (x 0)), (1, .int (en)), (2, .int (nI 1))]) hC dX4_drawMeanPressures_100 hl rfl (by decide) rfl (fun ls hl => ?_)
              refine lv_goto (tgt := 19) hx hb dX4_drawMeanPressures_103 (by decide) ?_
              exact ih_3 (zs + 1) (upd F9 zs (s_mv f en cn (21 + zs))) _ _ hP_9 hD_10 hS_11 (by first | omega | assumption | rfl) (by rw [hF]; have := s_fl_succ (fun k => tr (21 + k)) 0 (fun k => s_mv f en cn (21 + k)) zs; rw [Nat.zero_add] at this; exact this) (by omega) ls (lv_sub hl [0, 3, 4, 5, 6, 7] rfl)
            · obtain ⟨qj, qoj, qij, hrf, hcd, hn1, hn2, hn3⟩ := hB9.2.2 zi (by first | assumption | omega)
              refine lv_aload_n hx hb dX4_drawMeanPressures_44 rfl (lvG hl rfl) ?_
              refine va_get (D := g.1) (ci := 4) (v := .ref (a 0)) (C := RX4) (T := TX4) (N := 7) hx hb hts i_X4 hown hK.1 hB9.1 0 rfl rfl 0 (by decide) (hts _ w_175) (fun _ h9 => h9) rfl dX4_drawMeanPressures_45 ?_
              refine va_get (D := g.1) (ci := 3) (v := .ref (a 6)) (C := RX3) (T := TX3) (N := 13) hx hb hts i_X3 hown hK.1 hB9.1 1 rfl rfl 11 (by decide) (hts _ w_144) (fun _ h9 => h9) rfl dX4_drawMeanPressures_48 ?_
              refine lv_iload hx hb dX4_drawMeanPressures_51 (lvG hl rfl) ?_
              refine q_ald (k := zi) (b := qj) hC hK hB9.1 4 rfl (by omega) (by decide) (hrf) dX4_drawMeanPressures_53 ?_
              refine va_get (D := g.1) (ci := 0) (v := .int (f (62 + 44 * zi))) (C := RX0) (T := TX0) (N := 4) hx hb hts i_X0 hown hK.1 hcd 0 rfl rfl 0 (by decide) (hts _ w_46) (fun _ h9 => h9) rfl dX4_drawMeanPressures_54 ?_
              refine lv_iload_n hx hb dX4_drawMeanPressures_57 rfl (lvG hl rfl) ?_
              refine lv_icmp_ne (tgt := 83) hx hb dX4_drawMeanPressures_58 (by decide) (fun zc58 => ?_) (fun zc58 => ?_)
              · refine n_iinc (lv' := [(7, .int (nI (zi + 1))), (6, .int (sm)), (5, .int (nI zs)), (4, .ref (x 4)), (3, .int (nI (s_mn f en cn))), (0, .ref (x 0)), (1, .int (en)), (2, .int (nI 1))]) hC dX4_drawMeanPressures_83 hl rfl (by decide) rfl (fun ls hl => ?_)
                refine lv_goto (tgt := 32) hx hb dX4_drawMeanPressures_86 (by decide) ?_
                exact ih_6 (zi + 1) sm  (by first | omega | assumption | rfl) (by unfold s_sc; rw [← hsm]; first | (rw [if_pos zc58]; done) | (rw [if_neg zc58]; exact (add_n0 _).symm)) (by omega) ls (lv_sub hl [0, 1, 2, 3, 4, 5, 6, 7] rfl)
              · refine lv_iload hx hb dX4_drawMeanPressures_61 (lvG hl rfl) ?_
                refine lv_aload_n hx hb dX4_drawMeanPressures_63 rfl (lvG hl rfl) ?_
                refine va_get (D := g.1) (ci := 4) (v := .ref (a 0)) (C := RX4) (T := TX4) (N := 7) hx hb hts i_X4 hown hK.1 hB9.1 0 rfl rfl 0 (by decide) (hts _ w_175) (fun _ h9 => h9) rfl dX4_drawMeanPressures_64 ?_
                refine va_get (D := g.1) (ci := 3) (v := .ref (a 6)) (C := RX3) (T := TX3) (N := 13) hx hb hts i_X3 hown hK.1 hB9.1 1 rfl rfl 11 (by decide) (hts _ w_144) (fun _ h9 => h9) rfl dX4_drawMeanPressures_67 ?_
                refine lv_iload hx hb dX4_drawMeanPressures_70 (lvG hl rfl) ?_
                refine q_ald (k := zi) (b := qj) hC hK hB9.1 4 rfl (by omega) (by decide) (hrf) dX4_drawMeanPressures_72 ?_
                refine lv_iload_n hx hb dX4_drawMeanPressures_73 rfl (lvG hl rfl) ?_
                refine k_callPR (k_goV (rest := [.int (sm)]) hC hK (c_X0_pressuresOf l g qj qoj qij (f (62 + 44 * zi)) (f (62 + 44 * zi + 1)) ((s_pt f zi)) (nI 1)) L_X4_X0_pressuresOf (⟨⟨Nat.le_of_ble_eq_true rfl, Nat.le_of_ble_eq_true rfl⟩, ⟨rfl, rfl⟩, ⟨Nat.le_of_ble_eq_true rfl, Nat.le_of_ble_eq_true rfl⟩⟩) (k_recv hK hcd 0 rfl rfl) (hcd) rfl hl.1 rfl (Nat.le_of_ble_eq_true rfl) dX4_drawMeanPressures_74) ?_
                rw [if_neg (show ¬ nI 1 = nI 0 by decide)]
                refine lv_iload hx hb dX4_drawMeanPressures_77 (lvG hl rfl) ?_
                refine k_ald (k := zs) hC hK hcd 2 rfl (by omega) (by decide) dX4_drawMeanPressures_79 ?_
                refine lv_iadd hx hb dX4_drawMeanPressures_80 ?_
                refine lv_istore (lv' := [(6, .int (sm + (s_pt f zi (21 + zs)))), (7, .int (nI zi)), (5, .int (nI zs)), (4, .ref (x 4)), (3, .int (nI (s_mn f en cn))), (0, .ref (x 0)), (1, .int (en)), (2, .int (nI 1))]) hx hb dX4_drawMeanPressures_81 hl (by decide) rfl (fun ls hl => ?_)
                refine n_iinc (lv' := [(7, .int (nI (zi + 1))), (6, .int (sm + (s_pt f zi (21 + zs)))), (5, .int (nI zs)), (4, .ref (x 4)), (3, .int (nI (s_mn f en cn))), (0, .ref (x 0)), (1, .int (en)), (2, .int (nI 1))]) hC dX4_drawMeanPressures_83 hl rfl (by decide) rfl (fun ls hl => ?_)
                refine lv_goto (tgt := 32) hx hb dX4_drawMeanPressures_86 (by decide) ?_
                exact ih_6 (zi + 1) (sm + (s_pt f zi (21 + zs)))  (by first | omega | assumption | rfl) (by unfold s_sc; rw [← hsm]; first | (rw [if_pos zc58]; done) | (rw [if_neg zc58]; exact (add_n0 _).symm)) (by omega) ls (lv_sub hl [0, 1, 2, 3, 4, 5, 6, 7] rfl)
        exact key_4 ((cn - 0) + 1) 0 (nI 0)  (by first | rfl | omega | assumption) (by first | rfl | omega | assumption) (Nat.lt_succ_self _) ls (lv_sub hl [0, 1, 2, 3, 4, 5, 6, 7] rfl)
  exact key_1 ((21 - 0) + 1) 0 ((fun k => tr (21 + k))) _ _ hT hD hS (by first | rfl | omega | assumption) ((s_fl_0 _ _ _).symm) (Nat.lt_succ_self _) ls (lv_sub hl [0, 1, 2, 3, 4, 5] rfl)
theorem L_X4_X4_drawMeanPressures : LnkV RX4 240 yX4_drawMeanPressures cX4_drawMeanPressures 8 none 2 := ⟨w_434, w_436, w_15, w_25, w_437, ⟨by decide +kernel, by decide +kernel⟩, by decide +kernel⟩
theorem ma_at (tr h : Nat → Int32) (k : Nat) (hk : k < 42) : s_fl (s_fl tr 0 (fun k => h k) 21) 21 (fun k => h (21 + k)) 21 k = h k := by
  by_cases c : k < 21
  · rw [s_fl_out _ _ _ _ _ (by omega)]
    have := s_fl_in tr 0 (fun k => h k) 21 k c
    rw [Nat.zero_add] at this
    exact this
  · have := s_fl_in (s_fl tr 0 (fun k => h k) 21) 21 (fun k => h (21 + k)) 21 (k - 21) (by omega)
    rw [show 21 + (k - 21) = k by omega] at this
    exact this
set_option maxHeartbeats 4000000 in
set_option maxRecDepth 100000 in
theorem c_X4_meanArea (l : Launch) (g : kG) (x : Nat → Nat) (a : Nat → Nat) (n : Nat) (f : Nat → Int32) (cn : Nat) (rf : Nat → Option Nat) (hc : f 61 = nI cn) (hcn : cn ≤ 10) (en : Int32) (hp0 : ∀ j, j < cn → ∀ k, k < 42 → prs (s_pt f j k)) : MI l yX4_meanArea cX4_meanArea 2 (some .int) (rr 3 70) [.ref (x 0), .int (en)] ((fun H => XB g x a n f cn rf H ∧ XS g x H)) g 0 0 (SC x) (fun r H1 => r = (s_maR f en cn) ∧ XS g x H1) := by
  refine kOf (by decide) (Nat.le_of_ble_eq_true rfl) (fun p e s m below meth c ls hC hr hlk hin hK hP hl => ?_)
  have hx := hC.1
  have hb := hC.2.1
  have hml := hC.2.2.1
  have hown := hC.2.2.2.1
  have hts := hC.2.2.2.2
  have hl : lv_has ls 2 [(0, .ref (x 0)), (1, .int (en))] := hl
  obtain ⟨hB, ⟨tr, te, fo, so, hT, hD⟩⟩ := hP
  have hS : va_S (SC x) s.heap s.heap [] := va_S.rf
  have hmn := s_mn_le f en cn
  refine lv_iload_n hx hb dX4_meanArea_0 rfl (lvG hl rfl) ?_
  refine k_callPI (k_goS (rest := []) hC hK (c_X4_isEnd l g en) L_X4_X4_isEnd (⟨⟨Nat.le_of_ble_eq_true rfl, Nat.le_of_ble_eq_true rfl⟩, ⟨rfl, rfl⟩, ⟨Nat.le_of_ble_eq_true rfl, Nat.le_of_ble_eq_true rfl⟩⟩) (trivial) rfl hl.1 rfl (Nat.le_of_ble_eq_true rfl) dX4_meanArea_1) ?_
  refine b_ifne (tgt := 10) hC dX4_meanArea_4 (by decide) (fun zc4 => ?_) (fun zc4 => ?_)
  · refine lv_aload_n hx hb dX4_meanArea_10 rfl (lvG hl rfl) ?_
    refine lv_iload_n hx hb dX4_meanArea_11 rfl (lvG hl rfl) ?_
    refine k_callPI (k_goV (rest := []) hC hK (c_X4_countCards l g x a n f cn rf hc hcn en) L_X4_X4_countCards (⟨⟨Nat.le_of_ble_eq_true rfl, Nat.le_of_ble_eq_true rfl⟩, ⟨rfl, rfl⟩, ⟨Nat.le_of_ble_eq_true rfl, Nat.le_of_ble_eq_true rfl⟩⟩) (k_recv hK hB.1 0 rfl rfl) (hB) rfl hl.1 rfl (Nat.le_of_ble_eq_true rfl) dX4_meanArea_12) ?_
    refine n_if_ne (tgt := 21) hC dX4_meanArea_15 (by omega) (by decide) (fun zc15 => ?_) (fun zc15 => ?_)
    · refine lv_aload_n hx hb dX4_meanArea_21 rfl (lvG hl rfl) ?_
      refine lv_iload_n hx hb dX4_meanArea_22 rfl (lvG hl rfl) ?_
      refine lv_iconst (v := nI 0) hx hb dX4_meanArea_23 (by decide) ?_
      refine k_callMV0 (k_goV (rest := []) hC hK (c_X4_drawMean0 l g x a n f cn rf tr te fo so hc hcn en hp0 (Nat.pos_of_ne_zero zc15)) L_X4_X4_drawMeanPressures (⟨⟨Nat.le_of_ble_eq_true rfl, Nat.le_of_ble_eq_true rfl⟩, ⟨rfl, rfl⟩, ⟨Nat.le_of_ble_eq_true rfl, Nat.le_of_ble_eq_true rfl⟩⟩) (k_recv hK hB.1 0 rfl rfl) (⟨hB, ⟨hT, hD⟩⟩) rfl hl.1 rfl (Nat.le_of_ble_eq_true rfl) dX4_meanArea_24) hS (fun _ h => h) (fun H_1 locs_2 hQ_3 hz_ hk_5 hS_4 => ?_)
      obtain ⟨hT_6, hD_7⟩ := hQ_3
      have hB_8 : XB g x a n f cn rf H_1 := hB.at hS_4
      refine lv_aload_n hx hb dX4_meanArea_27 rfl (lvG hl rfl) ?_
      refine lv_iload_n hx hb dX4_meanArea_28 rfl (lvG hl rfl) ?_
      refine lv_iconst (v := nI 1) hx hb dX4_meanArea_29 (by decide) ?_
      refine k_callMV0 (k_goV (rest := []) hC hK (c_X4_drawMean1 l g x a n f cn rf ((s_fl tr 0 (fun k => s_mv f en cn k) 21)) te fo so hc hcn en hp0 (Nat.pos_of_ne_zero zc15)) L_X4_X4_drawMeanPressures (⟨⟨Nat.le_of_ble_eq_true rfl, Nat.le_of_ble_eq_true rfl⟩, ⟨rfl, rfl⟩, ⟨Nat.le_of_ble_eq_true rfl, Nat.le_of_ble_eq_true rfl⟩⟩) (k_recv hK hB_8.1 0 rfl rfl) (⟨hB_8, ⟨hT_6, hD_7⟩⟩) rfl hl.1 rfl (Nat.le_of_ble_eq_true rfl) dX4_meanArea_30) hS_4 (fun _ h => h) (fun H_9 locs_10 hQ_11 hz_ hk_13 hS_12 => ?_)
      obtain ⟨hT_14, hD_15⟩ := hQ_11
      have hB_16 : XB g x a n f cn rf H_9 := hB.at hS_12
      refine lv_aload_n hx hb dX4_meanArea_33 rfl (lvG hl rfl) ?_
      refine va_get (D := g.1) (ci := 4) (v := .ref (x 2)) (C := RX4) (T := TX4) (N := 7) hx hb hts i_X4 hown hK.1 hB_16.1 0 rfl rfl 3 (by decide) (hts _ w_178) (fun _ h9 => h9) rfl dX4_meanArea_34 ?_
      refine k_callPI (k_goV (rest := []) hC hK (c_X0_wholeArea l g (x 2) (x 3) (x 4) (nI 0) (nI 0) ((s_fl ((s_fl tr 0 (fun k => s_mv f en cn k) 21)) 21 (fun k => s_mv f en cn (21 + k)) 21))) L_X4_X0_wholeArea (⟨⟨Nat.le_of_ble_eq_true rfl, Nat.le_of_ble_eq_true rfl⟩, ⟨rfl, rfl⟩, ⟨Nat.le_of_ble_eq_true rfl, Nat.le_of_ble_eq_true rfl⟩⟩) (k_recv hK hB_16.1 5 rfl rfl) ((va_P.app (hB_16.1.sub [5] rfl) (hT_14.sub [0, 1] rfl))) rfl hl.1 rfl (Nat.le_of_ble_eq_true rfl) dX4_meanArea_37) ?_
      exact k_iretM hC hr hlk hS_12 dX4_meanArea_40 (⟨by unfold s_maR; rw [if_pos zc4, if_neg zc15]; exact s_ar_eq 20 (by omega) (fun k hk => ma_at tr (fun k => s_mv f en cn k) k hk), XTS ⟨hT_14, hD_15⟩⟩)
    · refine lv_ldc (v := (-2000000004 : Int32)) hx hb hown (hts _ w_433) dX4_meanArea_18 ?_
      exact k_iretM hC hr hlk hS dX4_meanArea_20 (⟨by unfold s_maR; rw [if_pos zc4, if_pos zc15], XTS ⟨hT, hD⟩⟩)
  · refine lv_ldc (v := (-2000000001 : Int32)) hx hb hown (hts _ w_204) dX4_meanArea_7 ?_
    exact k_iretM hC hr hlk hS dX4_meanArea_9 (⟨by unfold s_maR; rw [if_neg zc4], XTS ⟨hT, hD⟩⟩)
