theorem KF.gen {M : Nat → Prop} {Hs H H1 : Heap} (h : KF M Hs H) (hz : H.size ≤ H1.size) (hk : ∀ q : Nat, q < Hs.size → ¬ M q → H1[q]? = H[q]?) : KF M Hs H1 := ⟨Nat.le_trans h.1 hz, fun q h1 h2 => (hk q h1 h2).trans (h.2 q h1 h2)⟩
theorem XK1 {g : kG} {y0 y : Nat} {e : va_E} {H : Heap} (h : va_at g.1 kCl (y0, e) H) (hn : y0 ≠ y) : XK g [(y0, e)] (fun q => q = y) H := ⟨va_one h, fun k q hq c => by
  match k, hq with
  | 0, hq => cases hq; exact hn c
  | k + 1, hq => simp at hq⟩
def k_p2 (P0 P1 : Nat → Int32) : Nat → Int32 := fun k => if k < 21 then P0 k else P1 (k - 21)
theorem p2_C {g : kG} {qc qo qi : Nat} {e0 sp : Int32} {h1 h2 P0 P1 : Nat → Int32} {H : Heap} (a0 : va_at g.1 kCl (cC qc qo qi e0 sp) H) (a1 : va_at g.1 kCl (cI g qo 21 (s_fl h1 0 P0 21)) H) (a2 : va_at g.1 kCl (cI g qi 21 (s_fl h2 0 P1 21)) H) : va_P g.1 kCl (wC g qc qo qi e0 sp (k_p2 P0 P1)) H := fun k z hz => by
  match k, hz with
  | 0, hz => cases hz; exact a0
  | 1, hz => cases hz; exact cI_eq (fun k hk => by rw [show k_p2 P0 P1 k = P0 k from if_pos hk]; have := s_fl_in h1 0 P0 21 k hk; rw [Nat.zero_add] at this; exact this) a1
  | 2, hz => cases hz; exact cI_eq (fun k hk => by rw [show k_p2 P0 P1 (21 + k) = P1 (21 + k - 21) from if_neg (by omega), Nat.add_sub_cancel_left]; have := s_fl_in h2 0 P1 21 k hk; rw [Nat.zero_add] at this; exact this) a2
  | k + 3, hz => simp at hz
theorem acU_eq {F F' p : Nat → Int32} {cn : Nat} {e0 sp : Int32} (hF : ∀ j, j < 2510 → F' j = F j) (hp : ∀ t, t < 42 → p t = F (2510 + t)) : ∀ j, j < 2510 → k_acU F' cn e0 sp p j = s_acU F cn e0 sp j := fun j hj => by
  unfold k_acU s_acU s_acG
  by_cases c : j = 61
  · subst c; rw [upd_at, upd_at]
  · rw [upd_ne _ _ _ _ c, upd_ne _ _ _ _ c]
    unfold s_fl
    by_cases c2 : 62 + 44 * cn + 2 ≤ j ∧ j < 62 + 44 * cn + 2 + 42
    · rw [if_pos c2, if_pos c2]
      exact hp _ (by omega)
    · rw [if_neg c2, if_neg c2]
      by_cases c3 : j = 62 + 44 * cn + 1
      · rw [c3, upd_at, upd_at]
      · rw [upd_ne _ _ _ _ c3, upd_ne _ _ _ _ c3]
        by_cases c4 : j = 62 + 44 * cn
        · rw [c4, upd_at, upd_at]
        · rw [upd_ne _ _ _ _ c4, upd_ne _ _ _ _ c4]
          exact hF j hj
section FC
variable {g : kG} {x a : Nat → Nat} {M : Nat → Prop} {f f1 p : Nat → Int32} {n cn : Nat} {H : Heap} {v : Int32}
theorem fc_i (h : ¬ s_okF f) (hX : XW g x a M f n H) : cILL = s_fcR f cn ∧ XW g x a M (s_fcF f n cn) (s_fcN f n cn) H := by
  unfold s_fcR s_fcF s_fcN
  rw [if_neg h, if_neg (fun q => h q.1), if_neg (fun q => h q.1)]
  exact ⟨rfl, hX⟩
theorem fc_c (h : s_okF f) (hc : cn = 10) (hX : XW g x a M f n H) : cCAP = s_fcR f cn ∧ XW g x a M (s_fcF f n cn) (s_fcN f n cn) H := by
  unfold s_fcR s_fcF s_fcN
  rw [if_pos h, if_pos hc, if_neg (fun q => q.2 hc), if_neg (fun q => q.2 hc)]
  exact ⟨rfl, hX⟩
theorem fc_t (h : s_okF f) (hc : ¬ cn = 10) (ef : f1 = s_rec f n) (ev : v = nI cn) (hp : ∀ t, t < 42 → p t = s_fcD f t) (hX : XW g x a M (k_acU (upd f1 16 (nI 0)) cn (f1 17) (f1 18) p) (s_recn n) H) : v = s_fcR f cn ∧ XW g x a M (s_fcF f n cn) (s_fcN f n cn) H := by
  subst ef ev
  unfold s_fcR s_fcF s_fcN
  rw [if_pos h, if_neg hc, if_pos ⟨h, hc⟩, if_pos ⟨h, hc⟩]
  refine ⟨rfl, hX.congr ?_⟩
  unfold s_fcU
  rw [s_rec_lo f n (show 17 < 502 by decide), s_rec_lo f n (show 18 < 502 by decide)]
  refine acU_eq (fun j hj => ?_) (fun t ht => ?_)
  · by_cases c : j = 16
    · rw [c, upd_at, upd_at]
    · rw [upd_ne _ _ _ _ c, upd_ne _ _ _ _ c]
      unfold s_fcG
      rw [s_fl_out _ _ _ _ _ (by omega)]
  · rw [upd_ne _ _ _ _ (by omega)]
    unfold s_fcG
    rw [s_fl_in _ _ _ _ _ ht]
    exact hp t ht
theorem fc_p {d : Nat → Int32} (hd : ∀ k, k < 42 → d k = f (19 + k) - nI 1) (hb : ∀ k, k < 42 → 0 ≤ (f (19 + k)).toInt ∧ (f (19 + k)).toInt ≤ 5001) (h0 : ¬ k_ct d 21 = 0) (h1 : ¬ k_ct (fun k => d (21 + k)) 21 = 0) : ∀ t, t < 42 → k_p2 (k_dr d) (k_dr (fun k => d (21 + k))) t = s_fcD f t := fun t ht => by
  unfold k_p2 s_fcD
  by_cases c : t < 21
  · rw [if_pos c, show t / 21 = 0 by omega, show t % 21 = t by omega]
    exact dr_eq (by omega) (fun k hk => hd k (by omega)) (fun k hk => hb k (by omega)) h0
  · rw [if_neg c, show t / 21 = 1 by omega, show t % 21 = t - 21 by omega]
    refine dr_eq (by omega) (fun k hk => ?_) (fun k hk => ?_) h1
    · show d (21 + k) = f (19 + 21 * 1 + k) - nI 1
      rw [show 19 + 21 * 1 + k = 19 + (21 + k) by omega]
      exact hd _ (by omega)
    · show 0 ≤ (f (19 + 21 * 1 + k)).toInt ∧ (f (19 + 21 * 1 + k)).toInt ≤ 5001
      rw [show 19 + 21 * 1 + k = 19 + (21 + k) by omega]
      exact hb _ (by omega)
theorem fc_ok {d : Nat → Int32} (h16 : f 16 = nI 1) (hd : ∀ k, k < 42 → d k = f (19 + k) - nI 1) (hb : ∀ k, k < 42 → 0 ≤ (f (19 + k)).toInt ∧ (f (19 + k)).toInt ≤ 5001) : (k_ct d 21 = s_cnt (s_p01 f 0) 21) ∧ (k_ct (fun k => d (21 + k)) 21 = s_cnt (s_p01 f 1) 21) := by
  refine ⟨ct_eq 21 (fun k hk => ?_) (fun k hk => ?_), ct_eq 21 (fun k hk => ?_) (fun k hk => ?_)⟩
  · show d k = f (19 + 21 * 0 + k) - nI 1
    rw [show 19 + 21 * 0 + k = 19 + k by omega]; exact hd k (by omega)
  · show 0 ≤ (f (19 + 21 * 0 + k)).toInt
    rw [show 19 + 21 * 0 + k = 19 + k by omega]; exact (hb k (by omega)).1
  · show d (21 + k) = f (19 + 21 * 1 + k) - nI 1
    rw [show 19 + 21 * 1 + k = 19 + (21 + k) by omega]; exact hd _ (by omega)
  · show 0 ≤ (f (19 + 21 * 1 + k)).toInt
    rw [show 19 + 21 * 1 + k = 19 + (21 + k) by omega]; exact (hb _ (by omega)).1
end FC
theorem L_X4_X4_drawThroughPoints : LnkS RX4 164 yX4_drawThroughPoints cX4_drawThroughPoints 6 none 2 := ⟨w_280, w_281, w_25, w_282, ⟨by decide +kernel, by decide +kernel⟩, by decide +kernel⟩
theorem L_X4_X4_addCard : LnkV RX4 169 yX4_addCard cX4_addCard 3 (some .int) 1 := ⟨w_295, w_297, w_2, w_25, w_298, ⟨by decide +kernel, by decide +kernel⟩, by decide +kernel⟩
set_option maxHeartbeats 4000000 in
set_option maxRecDepth 100000 in
theorem c_X4_finishCard (l : Launch) (g : kG) (x : Nat → Nat) (a : Nat → Nat) (M : Nat → Prop) (f : Nat → Int32) (n : Nat) (cn : Nat) (hc : f 61 = nI cn) (hcn : cn ≤ 10) (hPt : ∀ k, k < 42 → 0 ≤ (f (19 + k)).toInt ∧ (f (19 + k)).toInt ≤ 5001) (sz : Nat) (hMU : ∀ q, MU x M q → q < sz) : MI l yX4_finishCard cX4_finishCard 3 (some .int) (rc 4 103 3 46) [.ref (x 0)] ((fun H => H.size = sz ∧ XW g x a M f n H)) g 3 46 (fun q => M q ∨ sz ≤ q) (fun r H1 => r = s_fcR f cn ∧ XW g x a M (s_fcF f n cn) (s_fcN f n cn) H1) := by
  refine kOf (by decide) (Nat.le_of_ble_eq_true rfl) (fun p e s m below meth c ls hC hr hlk hin hK hP hl => ?_)
  have hx := hC.1
  have hb := hC.2.1
  have hml := hC.2.2.1
  have hown := hC.2.2.2.1
  have hts := hC.2.2.2.2
  have hl : lv_has ls 3 [(0, .ref (x 0))] := hl
  obtain ⟨hsz, hXW⟩ := hP
  obtain ⟨hn4, hm, hx0, d, r, hs, w0, hM, hD, hR, hB⟩ := hXW
  obtain ⟨ws, ews⟩ := hR.trial
  subst ews
  have hXW : XW g x a M f n s.heap := XW.mk hn4 hm hx0 hM hD hR hB
  have hF : KF M s.heap s.heap := KF.rf
  have hS : va_S (fun q => M q ∨ sz ≤ q) s.heap s.heap [] := va_S.rf
  have hDM := hD
  have hD := va_D.weaken (B := fun q => M q ∨ sz ≤ q) hD (fun k q h c => (fun _ h => Or.inl h) _ c)
  have hct1 := k_ct_le d 21
  have hct2 := k_ct_le (fun k => d (21 + k)) 21
  refine lv_aload_n hx hb dX4_finishCard_0 rfl (lvG hl rfl) ?_
  refine va_get (D := g.1) (ci := 4) (v := .ref (a 0)) (C := RX4) (T := TX4) (N := 7) hx hb hts i_X4 hown hK.1 hM 0 rfl rfl 0 (by decide) (hts _ w_175) (fun _ h9 => h9) rfl dX4_finishCard_1 ?_
  refine va_get (D := g.1) (ci := 3) (v := .ref (a 3)) (C := RX3) (T := TX3) (N := 13) hx hb hts i_X3 hown hK.1 hM 2 rfl rfl 10 (by decide) (hts _ w_142) (fun _ h9 => h9) rfl dX4_finishCard_4 ?_
  refine lv_astore_n (lv' := [(1, .ref (a 3)), (0, .ref (x 0))]) hx hb dX4_finishCard_7 rfl hl (by decide) rfl (fun ls hl => ?_)
  rcases (hB).1 with zb | zb
  · refine lv_aload_n hx hb dX4_finishCard_8 rfl (lvG hl rfl) ?_
    refine va_get (D := g.1) (ci := 1) (v := .int (f 16)) (C := RX1) (T := TX1) (N := 5) hx hb hts i_X1 hown hK.1 hM 6 rfl rfl 0 (by decide) (hts _ w_100) (fun _ h9 => h9) rfl dX4_finishCard_9 ?_
    rw [zb]
    refine n_if_eq (tgt := 35) hC dX4_finishCard_12 (by decide) (by decide) (fun _ => ?_) (fun c => absurd c (by decide))
    refine lv_ldc (v := (-2000000002 : Int32)) hx hb hown (hts _ w_267) dX4_finishCard_35 ?_
    refine W.widen (k := 3) (n := 46) (by omega) (by omega) ?_
    exact k_iretM hC hr hlk hS dX4_finishCard_37 (by first | exact fc_i (fun q => q.1 zb) hXW | exact fc_i (fun q => q.2.1 (by rw [← hok2.1]; exact zc22)) hXW | exact fc_i (fun q => q.2.2 (by rw [← hok2.2]; exact zc32)) hXW)
  · refine lv_aload_n hx hb dX4_finishCard_8 rfl (lvG hl rfl) ?_
    refine va_get (D := g.1) (ci := 1) (v := .int (f 16)) (C := RX1) (T := TX1) (N := 5) hx hb hts i_X1 hown hK.1 hM 6 rfl rfl 0 (by decide) (hts _ w_100) (fun _ h9 => h9) rfl dX4_finishCard_9 ?_
    rw [zb]
    refine n_if_eq (tgt := 35) hC dX4_finishCard_12 (by decide) (by decide) (fun c => absurd c (by decide)) (fun _ => ?_)
    have hok2 := fc_ok zb (hB.2.1 zb) hPt
    refine lv_aload_n hx hb dX4_finishCard_15 rfl (lvG hl rfl) ?_
    refine va_get (D := g.1) (ci := 1) (v := .ref (a 4)) (C := RX1) (T := TX1) (N := 5) hx hb hts i_X1 hown hK.1 hM 6 rfl rfl 3 (by decide) (hts _ w_106) (fun _ h9 => h9) rfl dX4_finishCard_16 ?_
    refine k_callPI (k_goS (rest := []) hC hK (c_X4_countPoints l g (a 4) d) L_X4_X4_countPoints (⟨⟨Nat.le_of_ble_eq_true rfl, Nat.le_of_ble_eq_true rfl⟩, ⟨rfl, rfl⟩, ⟨Nat.le_of_ble_eq_true rfl, Nat.le_of_ble_eq_true rfl⟩⟩) ((va_P.sub hM [7] rfl)) rfl hl.1 rfl (Nat.le_of_ble_eq_true rfl) dX4_finishCard_19) ?_
    refine n_if_eq (tgt := 35) hC dX4_finishCard_22 (by omega) (by decide) (fun zc22 => ?_) (fun zc22 => ?_)
    · refine lv_ldc (v := (-2000000002 : Int32)) hx hb hown (hts _ w_267) dX4_finishCard_35 ?_
      refine W.widen (k := 3) (n := 46) (by omega) (by omega) ?_
      exact k_iretM hC hr hlk hS dX4_finishCard_37 (by first | exact fc_i (fun q => q.1 zb) hXW | exact fc_i (fun q => q.2.1 (by rw [← hok2.1]; exact zc22)) hXW | exact fc_i (fun q => q.2.2 (by rw [← hok2.2]; exact zc32)) hXW)
    · refine lv_aload_n hx hb dX4_finishCard_25 rfl (lvG hl rfl) ?_
      refine va_get (D := g.1) (ci := 1) (v := .ref (a 5)) (C := RX1) (T := TX1) (N := 5) hx hb hts i_X1 hown hK.1 hM 6 rfl rfl 4 (by decide) (hts _ w_108) (fun _ h9 => h9) rfl dX4_finishCard_26 ?_
      refine k_callPI (k_goS (rest := []) hC hK (c_X4_countPoints l g (a 5) ((fun k => d (21 + k)))) L_X4_X4_countPoints (⟨⟨Nat.le_of_ble_eq_true rfl, Nat.le_of_ble_eq_true rfl⟩, ⟨rfl, rfl⟩, ⟨Nat.le_of_ble_eq_true rfl, Nat.le_of_ble_eq_true rfl⟩⟩) ((va_P.sub hM [8] rfl)) rfl hl.1 rfl (Nat.le_of_ble_eq_true rfl) dX4_finishCard_29) ?_
      refine n_if_ne (tgt := 38) hC dX4_finishCard_32 (by omega) (by decide) (fun zc32 => ?_) (fun zc32 => ?_)
      · refine lv_aload_n hx hb dX4_finishCard_38 rfl (lvG hl rfl) ?_
        refine va_get (D := g.1) (ci := 4) (v := .ref (a 0)) (C := RX4) (T := TX4) (N := 7) hx hb hts i_X4 hown hK.1 hM 0 rfl rfl 0 (by decide) (hts _ w_175) (fun _ h9 => h9) rfl dX4_finishCard_39 ?_
        refine va_get (D := g.1) (ci := 3) (v := .int (f 61)) (C := RX3) (T := TX3) (N := 13) hx hb hts i_X3 hown hK.1 hM 2 rfl rfl 12 (by decide) (hts _ w_146) (fun _ h9 => h9) rfl dX4_finishCard_42 ?_
        rw [hc]
        refine lv_bipush (v := nI 10) hx hb dX4_finishCard_45 (by decide) ?_
        refine n_icmp_lt (tgt := 53) hC dX4_finishCard_47 (by omega) (by omega) (by decide) (fun zc47 => ?_) (fun zc47 => ?_)
        · refine lv_aload_n hx hb dX4_finishCard_53 rfl (lvG hl rfl) ?_
          refine k_callMV0 (k_goV (rest := []) hC hK (c_X4_recordState l g x a M f n) L_X4_X4_recordState (⟨⟨Nat.le_of_ble_eq_true rfl, Nat.le_of_ble_eq_true rfl⟩, ⟨rfl, rfl⟩, ⟨Nat.le_of_ble_eq_true rfl, Nat.le_of_ble_eq_true rfl⟩⟩) (k_recv hK hM 0 rfl rfl) (hXW) rfl hl.1 rfl (Nat.le_of_ble_eq_true rfl) dX4_finishCard_54) hS (fun _ h => Or.inl h) (fun H_1 locs_2 hQ_3 hz_ hk_5 hS_4 => ?_)
          obtain ⟨f6, ef6⟩ : ∃ z, z = s_rec f n := ⟨_, rfl⟩
          rw [← ef6] at hQ_3
          obtain ⟨hn6, hm6, hx06, d6, r6, hs6, w06, hM6, hD6, hR6, hB6⟩ := hQ_3
          obtain ⟨ws6, ews6⟩ := hR6.trial
          subst ews6
          have hXW6 := XW.mk hn6 hm6 hx06 hM6 hD6 hR6 hB6
          have hF6 : KF M H_1 H_1 := KF.rf
          have hDM6 := hD6
          have hD6 := va_D.weaken (B := fun q => M q ∨ sz ≤ q) hD6 (fun k q h c => (fun _ h => Or.inl h) _ c)
          have hl3 : a 3 < Array.size H_1 := (hM6 6 _ rfl).lt
          have hl4 : a 4 < Array.size H_1 := (hM6 7 _ rfl).lt
          have hl5 : a 5 < Array.size H_1 := (hM6 8 _ rfl).lt
          have hls : Array.size s.heap ≤ Array.size H_1 := hS_4.1
          refine k_newO (ci := 0) (fs := [.int (nI 0), .int (nI 0), .null, .null]) (C := RX0) (T := TX0) (N := 4) hC hK i_X0 tyX0 tyX0_ok w_40 w_41 w_26 hS_4 rfl (by exact bl_X0) (Nat.le_of_ble_eq_true rfl) (Nat.le_of_ble_eq_true rfl) dX4_finishCard_57 (fun q_7 H_8 eq_9 hv_10 hz_11 hk_12 hS_13 => ?_)
          have hM_14 : va_P g.1 kCl ([(x 0, .inr (4, [.ref (a 0), .ref (x 1), .int (nI (s_recn n)), .ref (x 2), .ref (x 5), .ref (x 6), .ref (x 7)])), (x 1, .inl (g.2.2.2, 4, .inr (.inr (.inr (.inr hs6))))), (a 0, .inr (3, [.int (f6 0), .int (f6 1), .int (f6 2), .int (f6 3), .int (f6 4), .int (f6 5), .int (f6 6), .int (f6 7), .ref (a 1), .ref (a 2), .ref (a 3), .ref (a 6), .int (f6 61)])), (a 6, .inl (g.2.2.1, 10, .inr (.inr (.inr (.inr r6))))), (a 1, .inr (2, [.int (f6 8), .int (f6 9), .int (f6 10), .int (f6 11)])), (a 2, .inr (2, [.int (f6 12), .int (f6 13), .int (f6 14), .int (f6 15)])), (a 3, .inr (1, [.int (f6 16), .int (f6 17), .int (f6 18), .ref (a 4), .ref (a 5)])), cI g (a 4) 21 d6, cI g (a 5) 21 ((fun k => d6 (21 + k))), (x 2, .inr (0, [.int (nI 0), .int (nI 0), .ref (x 3), .ref (x 4)]))] ++ ws6) H_8 := va_P.kept hM6 (fun k z hz9 => hk_12 z.1 (hM6 k z hz9).lt)
          have hF_15 := KF.gen hF6 (by rw [hz_11]; omega) (fun q h1 h2 => hk_12 q (Nat.lt_of_lt_of_le h1 hF6.1))
          refine lv_dup hx hb dX4_finishCard_60 rfl ?_
          refine k_callMV (k_goI (rest := [.ref q_7]) hC hK (c_X0_init l g q_7 (H_8.size)) L_X4_X0_init (⟨⟨Nat.le_of_ble_eq_true rfl, Nat.le_of_ble_eq_true rfl⟩, ⟨rfl, rfl⟩, ⟨Nat.le_of_ble_eq_true rfl, Nat.le_of_ble_eq_true rfl⟩⟩) (⟨rfl, hv_10⟩) rfl hl.1 rfl (Nat.le_of_ble_eq_true rfl) dX4_finishCard_61) hS_13 (fun z hz9 => by have hz8 : z = q_7 ∨ H_8.size ≤ z := hz9; show M z ∨ sz ≤ z; omega) (fun H_16 locs_17 hQ_18 hz_ hk_20 hS_19 => ?_)
          obtain ⟨q_21, eq_22⟩ : ∃ z, z = Array.size H_8 := ⟨_, rfl⟩
          have hM_23 : va_P g.1 kCl ([(x 0, .inr (4, [.ref (a 0), .ref (x 1), .int (nI (s_recn n)), .ref (x 2), .ref (x 5), .ref (x 6), .ref (x 7)])), (x 1, .inl (g.2.2.2, 4, .inr (.inr (.inr (.inr hs6))))), (a 0, .inr (3, [.int (f6 0), .int (f6 1), .int (f6 2), .int (f6 3), .int (f6 4), .int (f6 5), .int (f6 6), .int (f6 7), .ref (a 1), .ref (a 2), .ref (a 3), .ref (a 6), .int (f6 61)])), (a 6, .inl (g.2.2.1, 10, .inr (.inr (.inr (.inr r6))))), (a 1, .inr (2, [.int (f6 8), .int (f6 9), .int (f6 10), .int (f6 11)])), (a 2, .inr (2, [.int (f6 12), .int (f6 13), .int (f6 14), .int (f6 15)])), (a 3, .inr (1, [.int (f6 16), .int (f6 17), .int (f6 18), .ref (a 4), .ref (a 5)])), cI g (a 4) 21 d6, cI g (a 5) 21 ((fun k => d6 (21 + k))), (x 2, .inr (0, [.int (nI 0), .int (nI 0), .ref (x 3), .ref (x 4)]))] ++ ws6) H_16 := va_P.kept hM_14 (fun k z hz9 => hk_20 z.1 (hM_14 k z hz9).lt (by have h9 := (hM6 k z hz9).lt; have h8 := (hM_14 k z hz9).lt; show ¬ (z.1 = q_7 ∨ Array.size H_8 ≤ z.1); omega))
          have hF_24 := KF.gen hF_15 hz_ (fun q h1 h2 => hk_20 q (Nat.lt_of_lt_of_le h1 hF_15.1) (by have h9 := hF_15.1; show ¬ (q = q_7 ∨ Array.size H_8 ≤ q); omega))
          rw [← eq_22] at hQ_18
          obtain ⟨hz_25, hpp_26⟩ := hQ_18
          have hv_27 : va_at g.1 kCl ((q_7, .inr (0, [.int (nI 0), .int (nI 0), .ref q_21, .ref (q_21 + 1)]))) H_16 := hpp_26 0 _ rfl
          have hv_28 : va_at g.1 kCl (cI g q_21 21 ((fun _ => nI 0))) H_16 := hpp_26 1 _ rfl
          have hv_29 : va_at g.1 kCl (cI g (q_21 + 1) 21 ((fun _ => nI 0))) H_16 := hpp_26 2 _ rfl
          refine lv_astore_n (lv' := [(2, .ref q_7), (1, .ref (a 3)), (0, .ref (x 0))]) hx hb dX4_finishCard_64 rfl hl (by decide) rfl (fun ls hl => ?_)
          refine lv_aload_n hx hb dX4_finishCard_65 rfl (lvG hl rfl) ?_
          refine lv_aload_n hx hb dX4_finishCard_66 rfl (lvG hl rfl) ?_
          refine va_get (D := g.1) (ci := 1) (v := .int (f6 17)) (C := RX1) (T := TX1) (N := 5) hx hb hts i_X1 hown hK.1 hM_23 6 rfl rfl 1 (by decide) (hts _ w_102) (fun _ h9 => h9) rfl dX4_finishCard_67 ?_
          refine k_putO (ci := 0) (v := .int (f6 17)) (ty := .int) (C := RX0) (T := TX0) (N := 4) hC hK i_X0 tyX0 tyX0_ok nmX0 ((va_one hv_27)) (D1 (A := fun z => M z ∨ sz ≤ z) (show M q_7 ∨ sz ≤ q_7 by omega)) hS_19 0 rfl rfl 0 (by decide) w_46 (fun _ h9 => h9) rfl (by decide +kernel) rfl rfl (Nat.le_of_ble_eq_true rfl) dX4_finishCard_70 (fun H_30 locs_31 hP_32 hD_33 hS_34 hz_35 hk_36 => ?_)
          have hv_37 : va_at g.1 kCl (cI g q_21 21 ((fun _ => nI 0))) H_30 := va_at.kept hv_28 (hk_36 q_21 (by omega))
          have hv_38 : va_at g.1 kCl (cI g (q_21 + 1) 21 ((fun _ => nI 0))) H_30 := va_at.kept hv_29 (hk_36 (q_21 + 1) (by omega))
          have hv_39 : va_at g.1 kCl ((q_7, .inr (0, [.int (f6 17), .int (nI 0), .ref q_21, .ref (q_21 + 1)]))) H_30 := hP_32 0 _ rfl
          have hM_40 : va_P g.1 kCl ([(x 0, .inr (4, [.ref (a 0), .ref (x 1), .int (nI (s_recn n)), .ref (x 2), .ref (x 5), .ref (x 6), .ref (x 7)])), (x 1, .inl (g.2.2.2, 4, .inr (.inr (.inr (.inr hs6))))), (a 0, .inr (3, [.int (f6 0), .int (f6 1), .int (f6 2), .int (f6 3), .int (f6 4), .int (f6 5), .int (f6 6), .int (f6 7), .ref (a 1), .ref (a 2), .ref (a 3), .ref (a 6), .int (f6 61)])), (a 6, .inl (g.2.2.1, 10, .inr (.inr (.inr (.inr r6))))), (a 1, .inr (2, [.int (f6 8), .int (f6 9), .int (f6 10), .int (f6 11)])), (a 2, .inr (2, [.int (f6 12), .int (f6 13), .int (f6 14), .int (f6 15)])), (a 3, .inr (1, [.int (f6 16), .int (f6 17), .int (f6 18), .ref (a 4), .ref (a 5)])), cI g (a 4) 21 d6, cI g (a 5) 21 ((fun k => d6 (21 + k))), (x 2, .inr (0, [.int (nI 0), .int (nI 0), .ref (x 3), .ref (x 4)]))] ++ ws6) H_30 := va_P.kept hM_23 (fun k z hz9 => hk_36 z.1 (by have h9 := (hM6 k z hz9).lt; omega))
          have hF_41 := KF.gen hF_24 (Nat.le_of_eq hz_35.symm) (fun q h1 h2 => hk_36 q (by omega))
          refine lv_aload_n hx hb dX4_finishCard_73 rfl (lvG hl rfl) ?_
          refine lv_aload_n hx hb dX4_finishCard_74 rfl (lvG hl rfl) ?_
          refine va_get (D := g.1) (ci := 1) (v := .int (f6 18)) (C := RX1) (T := TX1) (N := 5) hx hb hts i_X1 hown hK.1 hM_40 6 rfl rfl 2 (by decide) (hts _ w_104) (fun _ h9 => h9) rfl dX4_finishCard_75 ?_
          refine k_putO (ci := 0) (v := .int (f6 18)) (ty := .int) (C := RX0) (T := TX0) (N := 4) hC hK i_X0 tyX0 tyX0_ok nmX0 ((va_one hv_39)) (D1 (A := fun z => M z ∨ sz ≤ z) (show M q_7 ∨ sz ≤ q_7 by omega)) hS_34 0 rfl rfl 1 (by decide) w_47 (fun _ h9 => h9) rfl (by decide +kernel) rfl rfl (Nat.le_of_ble_eq_true rfl) dX4_finishCard_78 (fun H_42 locs_43 hP_44 hD_45 hS_46 hz_47 hk_48 => ?_)
          have hv_49 : va_at g.1 kCl (cI g q_21 21 ((fun _ => nI 0))) H_42 := va_at.kept hv_37 (hk_48 q_21 (by omega))
          have hv_50 : va_at g.1 kCl (cI g (q_21 + 1) 21 ((fun _ => nI 0))) H_42 := va_at.kept hv_38 (hk_48 (q_21 + 1) (by omega))
          have hv_51 : va_at g.1 kCl ((q_7, .inr (0, [.int (f6 17), .int (f6 18), .ref q_21, .ref (q_21 + 1)]))) H_42 := hP_44 0 _ rfl
          have hM_52 : va_P g.1 kCl ([(x 0, .inr (4, [.ref (a 0), .ref (x 1), .int (nI (s_recn n)), .ref (x 2), .ref (x 5), .ref (x 6), .ref (x 7)])), (x 1, .inl (g.2.2.2, 4, .inr (.inr (.inr (.inr hs6))))), (a 0, .inr (3, [.int (f6 0), .int (f6 1), .int (f6 2), .int (f6 3), .int (f6 4), .int (f6 5), .int (f6 6), .int (f6 7), .ref (a 1), .ref (a 2), .ref (a 3), .ref (a 6), .int (f6 61)])), (a 6, .inl (g.2.2.1, 10, .inr (.inr (.inr (.inr r6))))), (a 1, .inr (2, [.int (f6 8), .int (f6 9), .int (f6 10), .int (f6 11)])), (a 2, .inr (2, [.int (f6 12), .int (f6 13), .int (f6 14), .int (f6 15)])), (a 3, .inr (1, [.int (f6 16), .int (f6 17), .int (f6 18), .ref (a 4), .ref (a 5)])), cI g (a 4) 21 d6, cI g (a 5) 21 ((fun k => d6 (21 + k))), (x 2, .inr (0, [.int (nI 0), .int (nI 0), .ref (x 3), .ref (x 4)]))] ++ ws6) H_42 := va_P.kept hM_40 (fun k z hz9 => hk_48 z.1 (by have h9 := (hM6 k z hz9).lt; omega))
          have hF_53 := KF.gen hF_41 (Nat.le_of_eq hz_47.symm) (fun q h1 h2 => hk_48 q (by omega))
          refine lv_aload_n hx hb dX4_finishCard_81 rfl (lvG hl rfl) ?_
          refine va_get (D := g.1) (ci := 1) (v := .ref (a 4)) (C := RX1) (T := TX1) (N := 5) hx hb hts i_X1 hown hK.1 hM_52 6 rfl rfl 3 (by decide) (hts _ w_106) (fun _ h9 => h9) rfl dX4_finishCard_82 ?_
          refine lv_aload_n hx hb dX4_finishCard_85 rfl (lvG hl rfl) ?_
          refine va_get (D := g.1) (ci := 0) (v := .ref q_21) (C := RX0) (T := TX0) (N := 4) hx hb hts i_X0 hown hK.1 ((va_one hv_51)) 0 rfl rfl 2 (by decide) (hts _ w_49) (fun _ h9 => h9) rfl dX4_finishCard_86 ?_
          refine k_callMV0 (k_goS (rest := []) hC hK (c_X4_drawThroughPoints l g (a 4) d6 q_21 ((fun _ => nI 0))) L_X4_X4_drawThroughPoints (⟨⟨Nat.le_of_ble_eq_true rfl, Nat.le_of_ble_eq_true rfl⟩, ⟨rfl, rfl⟩, ⟨Nat.le_of_ble_eq_true rfl, Nat.le_of_ble_eq_true rfl⟩⟩) (⟨XK1 (hM_52 7 _ rfl) (by omega), (va_one hv_49)⟩) rfl hl.1 rfl (Nat.le_of_ble_eq_true rfl) dX4_finishCard_89) hS_46 (fun z hz9 => by have hz8 : z = q_21 := hz9; show M z ∨ sz ≤ z; omega) (fun H_54 locs_55 hQ_56 hz_ hk_58 hS_57 => ?_)
          have hv_59 : va_at g.1 kCl ((q_7, .inr (0, [.int (f6 17), .int (f6 18), .ref q_21, .ref (q_21 + 1)]))) H_54 := va_at.kept hv_51 (hk_58 q_7 hv_51.lt (by have hlt9 := hv_51.lt; show ¬ (q_7 = q_21); omega))
          have hv_60 : va_at g.1 kCl (cI g (q_21 + 1) 21 ((fun _ => nI 0))) H_54 := va_at.kept hv_50 (hk_58 (q_21 + 1) hv_50.lt (by have hlt9 := hv_50.lt; show ¬ (q_21 + 1 = q_21); omega))
          have hM_61 : va_P g.1 kCl ([(x 0, .inr (4, [.ref (a 0), .ref (x 1), .int (nI (s_recn n)), .ref (x 2), .ref (x 5), .ref (x 6), .ref (x 7)])), (x 1, .inl (g.2.2.2, 4, .inr (.inr (.inr (.inr hs6))))), (a 0, .inr (3, [.int (f6 0), .int (f6 1), .int (f6 2), .int (f6 3), .int (f6 4), .int (f6 5), .int (f6 6), .int (f6 7), .ref (a 1), .ref (a 2), .ref (a 3), .ref (a 6), .int (f6 61)])), (a 6, .inl (g.2.2.1, 10, .inr (.inr (.inr (.inr r6))))), (a 1, .inr (2, [.int (f6 8), .int (f6 9), .int (f6 10), .int (f6 11)])), (a 2, .inr (2, [.int (f6 12), .int (f6 13), .int (f6 14), .int (f6 15)])), (a 3, .inr (1, [.int (f6 16), .int (f6 17), .int (f6 18), .ref (a 4), .ref (a 5)])), cI g (a 4) 21 d6, cI g (a 5) 21 ((fun k => d6 (21 + k))), (x 2, .inr (0, [.int (nI 0), .int (nI 0), .ref (x 3), .ref (x 4)]))] ++ ws6) H_54 := va_P.kept hM_52 (fun k z hz9 => hk_58 z.1 (hM_52 k z hz9).lt (by have h9 := (hM6 k z hz9).lt; have h8 := (hM_52 k z hz9).lt; show ¬ (z.1 = q_21); omega))
          have hF_62 := KF.gen hF_53 hz_ (fun q h1 h2 => hk_58 q (Nat.lt_of_lt_of_le h1 hF_53.1) (by have h9 := hF_53.1; show ¬ (q = q_21); omega))
          have hv_63 : va_at g.1 kCl (cI g q_21 21 ((s_fl ((fun _ => nI 0)) 0 (k_dr d6) 21))) H_54 := hQ_56 0 _ rfl
          refine lv_aload_n hx hb dX4_finishCard_92 rfl (lvG hl rfl) ?_
          refine va_get (D := g.1) (ci := 1) (v := .ref (a 5)) (C := RX1) (T := TX1) (N := 5) hx hb hts i_X1 hown hK.1 hM_61 6 rfl rfl 4 (by decide) (hts _ w_108) (fun _ h9 => h9) rfl dX4_finishCard_93 ?_
          refine lv_aload_n hx hb dX4_finishCard_96 rfl (lvG hl rfl) ?_
          refine va_get (D := g.1) (ci := 0) (v := .ref (q_21 + 1)) (C := RX0) (T := TX0) (N := 4) hx hb hts i_X0 hown hK.1 ((va_one hv_59)) 0 rfl rfl 3 (by decide) (hts _ w_51) (fun _ h9 => h9) rfl dX4_finishCard_97 ?_
          refine k_callMV0 (k_goS (rest := []) hC hK (c_X4_drawThroughPoints l g (a 5) ((fun k => d6 (21 + k))) (q_21 + 1) ((fun _ => nI 0))) L_X4_X4_drawThroughPoints (⟨⟨Nat.le_of_ble_eq_true rfl, Nat.le_of_ble_eq_true rfl⟩, ⟨rfl, rfl⟩, ⟨Nat.le_of_ble_eq_true rfl, Nat.le_of_ble_eq_true rfl⟩⟩) (⟨XK1 (hM_61 8 _ rfl) (by omega), (va_one hv_60)⟩) rfl hl.1 rfl (Nat.le_of_ble_eq_true rfl) dX4_finishCard_100) hS_57 (fun z hz9 => by have hz8 : z = q_21 + 1 := hz9; show M z ∨ sz ≤ z; omega) (fun H_64 locs_65 hQ_66 hz_ hk_68 hS_67 => ?_)
          have hv_69 : va_at g.1 kCl ((q_7, .inr (0, [.int (f6 17), .int (f6 18), .ref q_21, .ref (q_21 + 1)]))) H_64 := va_at.kept hv_59 (hk_68 q_7 hv_59.lt (by have hlt9 := hv_59.lt; show ¬ (q_7 = q_21 + 1); omega))
          have hv_70 : va_at g.1 kCl (cI g q_21 21 ((s_fl ((fun _ => nI 0)) 0 (k_dr d6) 21))) H_64 := va_at.kept hv_63 (hk_68 q_21 hv_63.lt (by have hlt9 := hv_63.lt; show ¬ (q_21 = q_21 + 1); omega))
          have hM_71 : va_P g.1 kCl ([(x 0, .inr (4, [.ref (a 0), .ref (x 1), .int (nI (s_recn n)), .ref (x 2), .ref (x 5), .ref (x 6), .ref (x 7)])), (x 1, .inl (g.2.2.2, 4, .inr (.inr (.inr (.inr hs6))))), (a 0, .inr (3, [.int (f6 0), .int (f6 1), .int (f6 2), .int (f6 3), .int (f6 4), .int (f6 5), .int (f6 6), .int (f6 7), .ref (a 1), .ref (a 2), .ref (a 3), .ref (a 6), .int (f6 61)])), (a 6, .inl (g.2.2.1, 10, .inr (.inr (.inr (.inr r6))))), (a 1, .inr (2, [.int (f6 8), .int (f6 9), .int (f6 10), .int (f6 11)])), (a 2, .inr (2, [.int (f6 12), .int (f6 13), .int (f6 14), .int (f6 15)])), (a 3, .inr (1, [.int (f6 16), .int (f6 17), .int (f6 18), .ref (a 4), .ref (a 5)])), cI g (a 4) 21 d6, cI g (a 5) 21 ((fun k => d6 (21 + k))), (x 2, .inr (0, [.int (nI 0), .int (nI 0), .ref (x 3), .ref (x 4)]))] ++ ws6) H_64 := va_P.kept hM_61 (fun k z hz9 => hk_68 z.1 (hM_61 k z hz9).lt (by have h9 := (hM6 k z hz9).lt; have h8 := (hM_61 k z hz9).lt; show ¬ (z.1 = q_21 + 1); omega))
          have hF_72 := KF.gen hF_62 hz_ (fun q h1 h2 => hk_68 q (Nat.lt_of_lt_of_le h1 hF_62.1) (by have h9 := hF_62.1; show ¬ (q = q_21 + 1); omega))
          have hv_73 : va_at g.1 kCl (cI g (q_21 + 1) 21 ((s_fl ((fun _ => nI 0)) 0 (k_dr ((fun k => d6 (21 + k)))) 21))) H_64 := hQ_66 0 _ rfl
          refine lv_aload_n hx hb dX4_finishCard_103 rfl (lvG hl rfl) ?_
          refine lv_iconst (v := nI 0) hx hb dX4_finishCard_104 (by decide) ?_
          refine k_putO (ci := 1) (v := .int (nI 0)) (ty := .boolean) (C := RX1) (T := TX1) (N := 5) hC hK i_X1 tyX1 tyX1_ok nmX1 hM_71 hD6 hS_67 6 rfl rfl 0 (by decide) w_100 (fun _ h9 => h9) rfl (by decide +kernel) (by first | exact k_nar0 | exact k_nar1) (by decide +kernel) (Nat.le_of_ble_eq_true rfl) dX4_finishCard_105 (fun H_74 locs_75 hP_76 hD_77 hS_78 hz_79 hk_80 => ?_)
          have hP_76 : va_P g.1 kCl ([(x 0, .inr (4, [.ref (a 0), .ref (x 1), .int (nI (s_recn n)), .ref (x 2), .ref (x 5), .ref (x 6), .ref (x 7)])), (x 1, .inl (g.2.2.2, 4, .inr (.inr (.inr (.inr hs6))))), (a 0, .inr (3, [.int (f6 0), .int (f6 1), .int (f6 2), .int (f6 3), .int (f6 4), .int (f6 5), .int (f6 6), .int (f6 7), .ref (a 1), .ref (a 2), .ref (a 3), .ref (a 6), .int (f6 61)])), (a 6, .inl (g.2.2.1, 10, .inr (.inr (.inr (.inr r6))))), (a 1, .inr (2, [.int (f6 8), .int (f6 9), .int (f6 10), .int (f6 11)])), (a 2, .inr (2, [.int (f6 12), .int (f6 13), .int (f6 14), .int (f6 15)])), (a 3, .inr (1, [.int (nI 0), .int (f6 17), .int (f6 18), .ref (a 4), .ref (a 5)])), cI g (a 4) 21 d6, cI g (a 5) 21 ((fun k => d6 (21 + k))), (x 2, .inr (0, [.int (nI 0), .int (nI 0), .ref (x 3), .ref (x 4)]))] ++ ws6) H_74 := hP_76
          have hD_77 : va_D (fun q => M q ∨ sz ≤ q) ([(x 0, .inr (4, [.ref (a 0), .ref (x 1), .int (nI (s_recn n)), .ref (x 2), .ref (x 5), .ref (x 6), .ref (x 7)])), (x 1, .inl (g.2.2.2, 4, .inr (.inr (.inr (.inr hs6))))), (a 0, .inr (3, [.int (f6 0), .int (f6 1), .int (f6 2), .int (f6 3), .int (f6 4), .int (f6 5), .int (f6 6), .int (f6 7), .ref (a 1), .ref (a 2), .ref (a 3), .ref (a 6), .int (f6 61)])), (a 6, .inl (g.2.2.1, 10, .inr (.inr (.inr (.inr r6))))), (a 1, .inr (2, [.int (f6 8), .int (f6 9), .int (f6 10), .int (f6 11)])), (a 2, .inr (2, [.int (f6 12), .int (f6 13), .int (f6 14), .int (f6 15)])), (a 3, .inr (1, [.int (nI 0), .int (f6 17), .int (f6 18), .ref (a 4), .ref (a 5)])), cI g (a 4) 21 d6, cI g (a 5) 21 ((fun k => d6 (21 + k))), (x 2, .inr (0, [.int (nI 0), .int (nI 0), .ref (x 3), .ref (x 4)]))] ++ ws6) := hD_77
          have hF_81 := KF.put hF_72 hz_79 hk_80 (hDM6.2 6 _ rfl)
          have hv_82 : va_at g.1 kCl ((q_7, .inr (0, [.int (f6 17), .int (f6 18), .ref q_21, .ref (q_21 + 1)]))) H_74 := va_at.kept hv_69 (hk_80 q_7 (by omega))
          have hv_83 : va_at g.1 kCl (cI g q_21 21 ((s_fl ((fun _ => nI 0)) 0 (k_dr d6) 21))) H_74 := va_at.kept hv_70 (hk_80 q_21 (by omega))
          have hv_84 : va_at g.1 kCl (cI g (q_21 + 1) 21 ((s_fl ((fun _ => nI 0)) 0 (k_dr ((fun k => d6 (21 + k)))) 21))) H_74 := va_at.kept hv_73 (hk_80 (q_21 + 1) (by omega))
          have hd9 : ∀ k, k < 42 → d6 k = f (19 + k) - nI 1 := fun k hk => by have := hB6.2.1 (by rw [ef6, s_rec_lo _ _ (by omega)]; exact zb) k hk; rw [this, ef6, s_rec_lo _ _ (by omega)]
          refine lv_aload_n hx hb dX4_finishCard_108 rfl (lvG hl rfl) ?_
          refine lv_aload_n hx hb dX4_finishCard_109 rfl (lvG hl rfl) ?_
          refine k_callMI0 (k_goV (rest := []) hC hK (c_X4_addCard l g x a M (upd f6 16 (nI 0)) (s_recn n) cn (by rw [upd_ne _ _ _ _ (by omega), ef6, s_rec_lo _ _ (by omega), hc]) (by omega) q_7 q_21 (q_21 + 1) (f6 17) (f6 18) (k_p2 (k_dr d6) (k_dr (fun k => d6 (21 + k))))) L_X4_X4_addCard (⟨⟨Nat.le_of_ble_eq_true rfl, Nat.le_of_ble_eq_true rfl⟩, ⟨rfl, rfl⟩, ⟨Nat.le_of_ble_eq_true rfl, Nat.le_of_ble_eq_true rfl⟩⟩) (k_recv hK hP_76 0 rfl rfl) (⟨XW.close (f' := upd f6 16 (nI 0)) (ws := cTr x :: ws6) (d' := d6) (r' := r6) hXW6 hP_76 (va_Dre hDM6 rfl) hR6 hF_81.2 (fun j h1 h2 => upd_ne _ _ _ _ (by omega)) ((hB6.kept (fun q h c => hF_81.2 q h (fun z => c (Or.inl z)))).draft (Or.inl (upd_at _ _ _)) (fun q => absurd ((upd_at _ _ _).symm.trans q) (by decide)) (fun j h1 h2 => (upd_ne _ _ _ _ (by omega)).symm)), p2_C hv_82 hv_83 hv_84, (fun c => by have := hMU _ c; omega), (fun c => by have := hMU _ c; omega), (fun c => by have := hMU _ c; omega)⟩) rfl hl.1 rfl (Nat.le_of_ble_eq_true rfl) dX4_finishCard_110) hS_78 (fun _ h => Or.inl h) (fun r_ H_85 locs_86 hQ_87 hz_ hk_89 hS_88 => ?_)
          obtain ⟨hv_r, hX_r⟩ := hQ_87
          refine W.widen (k := 3) (n := 46) (by omega) (by omega) ?_
          exact k_iretM hC hr hlk hS_88 dX4_finishCard_113 (fc_t ⟨by rw [zb]; decide, by rw [← hok2.1]; exact zc22, by rw [← hok2.2]; exact zc32⟩ (by omega) ef6 hv_r (fc_p hd9 hPt (by rw [(fc_ok zb hd9 hPt).1, ← hok2.1]; exact zc22) (by rw [(fc_ok zb hd9 hPt).2, ← hok2.2]; exact zc32)) hX_r)
        · refine lv_ldc (v := (-2000000003 : Int32)) hx hb hown (hts _ w_279) dX4_finishCard_50 ?_
          refine W.widen (k := 3) (n := 46) (by omega) (by omega) ?_
          exact k_iretM hC hr hlk hS dX4_finishCard_52 (fc_c ⟨by rw [zb]; decide, by rw [← hok2.1]; exact zc22, by rw [← hok2.2]; exact zc32⟩ (by omega) hXW)
      · refine lv_ldc (v := (-2000000002 : Int32)) hx hb hown (hts _ w_267) dX4_finishCard_35 ?_
        refine W.widen (k := 3) (n := 46) (by omega) (by omega) ?_
        exact k_iretM hC hr hlk hS dX4_finishCard_37 (by first | exact fc_i (fun q => q.1 zb) hXW | exact fc_i (fun q => q.2.1 (by rw [← hok2.1]; exact zc22)) hXW | exact fc_i (fun q => q.2.2 (by rw [← hok2.2]; exact zc32)) hXW)
