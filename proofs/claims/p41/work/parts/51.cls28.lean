theorem XK4q {g : kG} {qo qi y0 y1 y2 y3 : Nat} {e0 e1 e2 e3 : va_E} {H : Heap} (h : va_P g.1 kCl [(y0, e0), (y1, e1), (y2, e2), (y3, e3)] H) (h0 : ¬ (y0 = qo ∨ y0 = qi)) (h1 : ¬ (y1 = qo ∨ y1 = qi)) (h2 : ¬ (y2 = qo ∨ y2 = qi)) (h3 : ¬ (y3 = qo ∨ y3 = qi)) : XK g [(y0, e0), (y1, e1), (y2, e2), (y3, e3)] (fun q => q = qo ∨ q = qi) H := ⟨h, fun k q hq c => by
  match k, hq with
  | 0, hq => cases hq; exact h0 c
  | 1, hq => cases hq; exact h1 c
  | 2, hq => cases hq; exact h2 c
  | 3, hq => cases hq; exact h3 c
  | k + 4, hq => simp at hq⟩
theorem XW.te {g : kG} {x a : Nat → Nat} {M : Nat → Prop} {f : Nat → Int32} {n : Nat} {H H1 : Heap} {v0 v1 v2 v3 : Int32} (h : XW g x a M f n H) (hk : ∀ q : Nat, q < H.size → ¬ q = x 5 → H1[q]? = H[q]?) (hv : va_at g.1 kCl (cE (x 5) v0 v1 v2 v3) H1) : XW g x a M f n H1 := by
  obtain ⟨hn, hm, hx, d, r, hs, ws, hP, hD, hR, hB⟩ := h
  obtain ⟨tr, te, fo, so, hT, hDT⟩ := hx
  have h5 : ∀ q, ¬ SC x q → ¬ q = x 5 := fun q c e => c (by rw [e]; exact sc_5)
  refine XW.mk hn hm ⟨tr, fun k => if k = 0 then v0 else if k = 1 then v1 else if k = 2 then v2 else v3, fo, so, PT2 hT hDT (va_one hv) hk, va_Dre hDT rfl⟩ (hP.kept (fun k q hq => hk q.1 (hP k q hq).lt (h5 _ (hm _ (hD.2 k q hq))))) hD (hR.kept (fun q h c => hk q h (h5 _ (fun c2 => c (Or.inr (Or.inl c2)))))) (hB.kept (fun q h c => hk q h (h5 _ (fun c2 => c (Or.inr (Or.inl c2))))))
def k_aiU (f : Nat → Int32) (n cn j : Nat) (en sp sh lk : Int32) : Nat → Int32 := k_acU (s_rec f n) cn en sp (k_p2 (k_do (s_rec f n) (s_iv f j 0 + sh) (s_iv f j 1 + sh) (s_iv f j 2 + sh) lk) (k_di (s_rec f n) (s_iv f j 3 - sh)))
def k_aiF (f : Nat → Int32) (n cn : Nat) (en sp sh lk : Int32) : Nat → Int32 := if s_aiP f cn en sp sh lk then k_aiU f n cn en.toNatClampNeg en sp sh lk else f
section AI
variable {g : kG} {x a : Nat → Nat} {M : Nat → Prop} {f f1 : Nat → Int32} {n cn j : Nat} {H : Heap} {v en e0 sp sh lk : Int32}
theorem ai_i (h : ¬ s_okI en sp sh lk) (hX : XW g x a M f n H) : cINV = s_aiR f cn en sp sh lk ∧ XW g x a M (k_aiF f n cn en sp sh lk) (s_aiN f n cn en sp sh lk) H := by
  unfold s_aiR k_aiF s_aiN
  rw [if_neg h, if_neg (fun q => h q.1), if_neg (fun q => h q.1)]
  exact ⟨rfl, hX⟩
theorem ai_x (h : s_okI en sp sh lk) (hj : en.toNatClampNeg = j) (h2 : ¬ s_exI f j sh) (hX : XW g x a M f n H) : cILL = s_aiR f cn en sp sh lk ∧ XW g x a M (k_aiF f n cn en sp sh lk) (s_aiN f n cn en sp sh lk) H := by
  subst hj
  unfold s_aiR k_aiF s_aiN
  rw [if_pos h, if_neg h2, if_neg (fun q => h2 q.2.1), if_neg (fun q => h2 q.2.1)]
  exact ⟨rfl, hX⟩
theorem ai_c (h : s_okI en sp sh lk) (hj : en.toNatClampNeg = j) (h2 : s_exI f j sh) (hc : cn = 10) (hX : XW g x a M f n H) : cCAP = s_aiR f cn en sp sh lk ∧ XW g x a M (k_aiF f n cn en sp sh lk) (s_aiN f n cn en sp sh lk) H := by
  subst hj
  unfold s_aiR k_aiF s_aiN
  rw [if_pos h, if_pos h2, if_pos hc, if_neg (fun q => q.2.2 hc), if_neg (fun q => q.2.2 hc)]
  exact ⟨rfl, hX⟩
theorem ai_t (h : s_okI en sp sh lk) (hj : en.toNatClampNeg = j) (h2 : s_exI f j sh) (hc : ¬ cn = 10) (he : en = e0) (ef : f1 = s_rec f n) (ev : v = nI cn) (hX : XW g x a M (k_acU f1 cn e0 sp (k_p2 (k_do f1 (s_iv f j 0 + sh) (s_iv f j 1 + sh) (s_iv f j 2 + sh) lk) (k_di f1 (s_iv f j 3 - sh)))) (s_recn n) H) : v = s_aiR f cn en sp sh lk ∧ XW g x a M (k_aiF f n cn en sp sh lk) (s_aiN f n cn en sp sh lk) H := by
  subst hj he ef ev
  unfold s_aiR k_aiF s_aiN
  rw [if_pos h, if_pos h2, if_neg hc, if_pos ⟨h, h2, hc⟩, if_pos ⟨h, h2, hc⟩]
  exact ⟨rfl, hX⟩
end AI
theorem L_X4_X2_existAsIdealCard : LnkV RX4 177 yX2_existAsIdealCard cX2_existAsIdealCard 1 (some .boolean) 0 := ⟨w_304, w_305, w_306, w_27, w_307, ⟨by decide +kernel, by decide +kernel⟩, by decide +kernel⟩
set_option maxHeartbeats 4000000 in
set_option maxRecDepth 100000 in
theorem c_X4_addIdealCard (l : Launch) (g : kG) (x : Nat → Nat) (a : Nat → Nat) (M : Nat → Prop) (f : Nat → Int32) (n : Nat) (cn : Nat) (hc : f 61 = nI cn) (hcn : cn ≤ 10) (en : Int32) (sp : Int32) (sh : Int32) (lk : Int32) (sz : Nat) (hMU : ∀ q, MU x M q → q < sz) : MI l yX4_addIdealCard cX4_addIdealCard 6 (some .int) (rc 4 103 3 46) [.ref (x 0), .int (en), .int (sp), .int (sh), .int (lk)] ((fun H => H.size = sz ∧ XW g x a M f n H)) g 3 46 (fun q => MF x M q ∨ sz ≤ q) (fun r H1 => r = s_aiR f cn en sp sh lk ∧ XW g x a M (k_aiF f n cn en sp sh lk) (s_aiN f n cn en sp sh lk) H1) := by
  refine kOf (by decide) (Nat.le_of_ble_eq_true rfl) (fun p e s m below meth c ls hC hr hlk hin hK hP hl => ?_)
  have hx := hC.1
  have hb := hC.2.1
  have hml := hC.2.2.1
  have hown := hC.2.2.2.1
  have hts := hC.2.2.2.2
  have hl : lv_has ls 6 [(0, .ref (x 0)), (1, .int (en)), (2, .int (sp)), (3, .int (sh)), (4, .int (lk))] := hl
  obtain ⟨hsz, hXW⟩ := hP
  obtain ⟨hn4, hm, hx0, d, r, hs, w0, hM, hD, hR, hB⟩ := hXW
  obtain ⟨ws, ews⟩ := hR.trial
  subst ews
  have hXW : XW g x a M f n s.heap := XW.mk hn4 hm hx0 hM hD hR hB
  have hF : KF M s.heap s.heap := KF.rf
  have hS : va_S (fun q => MF x M q ∨ sz ≤ q) s.heap s.heap [] := va_S.rf
  have hDM := hD
  have hD := va_D.weaken (B := fun q => MF x M q ∨ sz ≤ q) hD (fun k q h c => (fun _ h => Or.inl (Or.inl h)) _ c)
  obtain ⟨tr0, te0, fo0, so0, hT0, hDT0⟩ := hXW.2.2.1
  have hv5 : va_at g.1 kCl ((x 5, .inr (2, [.int (te0 0), .int (te0 1), .int (te0 2), .int (te0 3)]))) s.heap := hT0 2 _ rfl
  refine lv_iload_n hx hb dX4_addIdealCard_0 rfl (lvG hl rfl) ?_
  refine k_callPI (k_goS (rest := []) hC hK (c_X4_isEnd l g en) L_X4_X4_isEnd (⟨⟨Nat.le_of_ble_eq_true rfl, Nat.le_of_ble_eq_true rfl⟩, ⟨rfl, rfl⟩, ⟨Nat.le_of_ble_eq_true rfl, Nat.le_of_ble_eq_true rfl⟩⟩) (trivial) rfl hl.1 rfl (Nat.le_of_ble_eq_true rfl) dX4_addIdealCard_1) ?_
  refine b_ifeq (tgt := 36) hC dX4_addIdealCard_4 (by decide) (fun zc4 => ?_) (fun zc4 => ?_)
  · refine lv_ldc (v := (-2000000001 : Int32)) hx hb hown (hts _ w_204) dX4_addIdealCard_36 ?_
    refine W.widen (k := 3) (n := 46) (by omega) (by omega) ?_
    exact k_iretM hC hr hlk hS dX4_addIdealCard_38 (by first | exact ai_i (fun q => zc4 q.1) hXW | exact ai_i (fun q => zc11 q.2.1) hXW | exact ai_i (fun q => zc21 q.2.2.1) hXW | exact ai_i (fun q => zc33 q.2.2.2) hXW)
  · refine lv_iload_n hx hb dX4_addIdealCard_7 rfl (lvG hl rfl) ?_
    refine k_callPI (k_goS (rest := []) hC hK (c_X4_isSpeed l g sp) L_X4_X4_isSpeed (⟨⟨Nat.le_of_ble_eq_true rfl, Nat.le_of_ble_eq_true rfl⟩, ⟨rfl, rfl⟩, ⟨Nat.le_of_ble_eq_true rfl, Nat.le_of_ble_eq_true rfl⟩⟩) (trivial) rfl hl.1 rfl (Nat.le_of_ble_eq_true rfl) dX4_addIdealCard_8) ?_
    refine b_ifeq (tgt := 36) hC dX4_addIdealCard_11 (by decide) (fun zc11 => ?_) (fun zc11 => ?_)
    · refine lv_ldc (v := (-2000000001 : Int32)) hx hb hown (hts _ w_204) dX4_addIdealCard_36 ?_
      refine W.widen (k := 3) (n := 46) (by omega) (by omega) ?_
      exact k_iretM hC hr hlk hS dX4_addIdealCard_38 (by first | exact ai_i (fun q => zc4 q.1) hXW | exact ai_i (fun q => zc11 q.2.1) hXW | exact ai_i (fun q => zc21 q.2.2.1) hXW | exact ai_i (fun q => zc33 q.2.2.2) hXW)
    · refine lv_iload_n hx hb dX4_addIdealCard_14 rfl (lvG hl rfl) ?_
      refine lv_bipush (v := (-3 : Int32)) hx hb dX4_addIdealCard_15 (by decide) ?_
      refine lv_iconst (v := nI 3) hx hb dX4_addIdealCard_17 (by decide) ?_
      refine k_callPI (k_goS (rest := []) hC hK (c_X4_isWithin l g sh ((-3 : Int32)) (nI 3)) L_X4_X4_isWithin (⟨⟨Nat.le_of_ble_eq_true rfl, Nat.le_of_ble_eq_true rfl⟩, ⟨rfl, rfl⟩, ⟨Nat.le_of_ble_eq_true rfl, Nat.le_of_ble_eq_true rfl⟩⟩) (trivial) rfl hl.1 rfl (Nat.le_of_ble_eq_true rfl) dX4_addIdealCard_18) ?_
      refine b_ifeq (tgt := 36) hC dX4_addIdealCard_21 (by decide) (fun zc21 => ?_) (fun zc21 => ?_)
      · refine lv_ldc (v := (-2000000001 : Int32)) hx hb hown (hts _ w_204) dX4_addIdealCard_36 ?_
        refine W.widen (k := 3) (n := 46) (by omega) (by omega) ?_
        exact k_iretM hC hr hlk hS dX4_addIdealCard_38 (by first | exact ai_i (fun q => zc4 q.1) hXW | exact ai_i (fun q => zc11 q.2.1) hXW | exact ai_i (fun q => zc21 q.2.2.1) hXW | exact ai_i (fun q => zc33 q.2.2.2) hXW)
      · refine lv_iload hx hb dX4_addIdealCard_24 (lvG hl rfl) ?_
        refine lv_bipush (v := (-20 : Int32)) hx hb dX4_addIdealCard_26 (by decide) ?_
        refine lv_bipush (v := nI 20) hx hb dX4_addIdealCard_28 (by decide) ?_
        refine k_callPI (k_goS (rest := []) hC hK (c_X4_isWithin l g lk ((-20 : Int32)) (nI 20)) L_X4_X4_isWithin (⟨⟨Nat.le_of_ble_eq_true rfl, Nat.le_of_ble_eq_true rfl⟩, ⟨rfl, rfl⟩, ⟨Nat.le_of_ble_eq_true rfl, Nat.le_of_ble_eq_true rfl⟩⟩) (trivial) rfl hl.1 rfl (Nat.le_of_ble_eq_true rfl) dX4_addIdealCard_30) ?_
        refine b_ifne (tgt := 39) hC dX4_addIdealCard_33 (by decide) (fun zc33 => ?_) (fun zc33 => ?_)
        · obtain ⟨zj, h_zj, ev_zj⟩ := in_nat (by decide) (zc4)
          have e_zj : (en).toNatClampNeg = zj := by rw [ev_zj]; exact nI_clamp (by omega)
          have hl : lv_has ls 6 [(0, .ref (x 0)), (1, .int (nI zj)), (2, .int (sp)), (3, .int (sh)), (4, .int (lk))] := lv_eq hl (by rw [ev_zj])
          rcases (show zj = 0 ∨ zj = 1 by omega) with z0 | z0
          · have hl : lv_has ls 6 [(0, .ref (x 0)), (1, .int (nI 0)), (2, .int (sp)), (3, .int (sh)), (4, .int (lk))] := lv_eq hl (by rw [z0])
            refine lv_aload_n hx hb dX4_addIdealCard_39 rfl (lvG hl rfl) ?_
            refine va_get (D := g.1) (ci := 4) (v := .ref (x 5)) (C := RX4) (T := TX4) (N := 7) hx hb hts i_X4 hown hK.1 hM 0 rfl rfl 4 (by decide) (hts _ w_179) (fun _ h9 => h9) rfl dX4_addIdealCard_40 ?_
            refine lv_aload_n hx hb dX4_addIdealCard_43 rfl (lvG hl rfl) ?_
            refine va_get (D := g.1) (ci := 4) (v := .ref (a 0)) (C := RX4) (T := TX4) (N := 7) hx hb hts i_X4 hown hK.1 hM 0 rfl rfl 0 (by decide) (hts _ w_175) (fun _ h9 => h9) rfl dX4_addIdealCard_44 ?_
            refine lv_iload_n hx hb dX4_addIdealCard_47 rfl (lvG hl rfl) ?_
            refine k_callPR (k_goV (rest := [.ref (x 5)]) hC hK (c_X3_valvesOf l g a f (nI 0)) L_X4_X3_valvesOf (⟨⟨Nat.le_of_ble_eq_true rfl, Nat.le_of_ble_eq_true rfl⟩, ⟨rfl, rfl⟩, ⟨Nat.le_of_ble_eq_true rfl, Nat.le_of_ble_eq_true rfl⟩⟩) (k_recv hK hM 2 rfl rfl) ((va_P.sub hM [2] rfl)) rfl hl.1 rfl (Nat.le_of_ble_eq_true rfl) dX4_addIdealCard_48) ?_
            rw [if_pos (show nI 0 = nI 0 from rfl)]
            refine lv_iload_n hx hb dX4_addIdealCard_51 rfl (lvG hl rfl) ?_
            refine k_callMV0 (k_goV (rest := []) hC hK (c_X2_copyShifted l g (x 5) (te0 0) (te0 1) (te0 2) (te0 3) (a 1) (f 8) (f 9) (f 10) (f 11) sh) L_X4_X2_copyShifted (⟨⟨Nat.le_of_ble_eq_true rfl, Nat.le_of_ble_eq_true rfl⟩, ⟨rfl, rfl⟩, ⟨Nat.le_of_ble_eq_true rfl, Nat.le_of_ble_eq_true rfl⟩⟩) (k_recv hK (va_one hv5) 0 rfl rfl) (⟨(va_one hv5), XK1 (hM 4 _ rfl) (fun c => hm _ (hDM.2 4 _ rfl) (by rw [show (a 1 : Nat) = x 5 from c]; exact sc_5))⟩) rfl hl.1 rfl (Nat.le_of_ble_eq_true rfl) dX4_addIdealCard_52) hS (fun z c => Or.inl (Or.inr (by rw [show z = x 5 from c]; exact sc_5))) (fun H_1 locs_2 hQ_3 hz_ hk_5 hS_4 => ?_)
            have hv_6 : va_at g.1 kCl ((x 5, .inr (2, [.int ((f 8) + sh), .int ((f 9) + sh), .int ((f 10) + sh), .int ((f 11) - sh)]))) H_1 := hQ_3 0 _ rfl
            have hM_7 : va_P g.1 kCl ([(x 0, .inr (4, [.ref (a 0), .ref (x 1), .int (nI n), .ref (x 2), .ref (x 5), .ref (x 6), .ref (x 7)])), (x 1, .inl (g.2.2.2, 4, .inr (.inr (.inr (.inr hs))))), (a 0, .inr (3, [.int (f 0), .int (f 1), .int (f 2), .int (f 3), .int (f 4), .int (f 5), .int (f 6), .int (f 7), .ref (a 1), .ref (a 2), .ref (a 3), .ref (a 6), .int (f 61)])), (a 6, .inl (g.2.2.1, 10, .inr (.inr (.inr (.inr r))))), (a 1, .inr (2, [.int (f 8), .int (f 9), .int (f 10), .int (f 11)])), (a 2, .inr (2, [.int (f 12), .int (f 13), .int (f 14), .int (f 15)])), (a 3, .inr (1, [.int (f 16), .int (f 17), .int (f 18), .ref (a 4), .ref (a 5)])), cI g (a 4) 21 d, cI g (a 5) 21 ((fun k => d (21 + k))), (x 2, .inr (0, [.int (nI 0), .int (nI 0), .ref (x 3), .ref (x 4)]))] ++ ws) H_1 := va_P.kept hM (fun k z hz9 => hk_5 z.1 (hM k z hz9).lt (fun c => hm z.1 (hDM.2 k z hz9) (by rw [show z.1 = x 5 from c]; exact sc_5)))
            have hXW_8 := XW.te hXW hk_5 hv_6
            refine lv_aload_n hx hb dX4_addIdealCard_55 rfl (lvG hl rfl) ?_
            refine va_get (D := g.1) (ci := 4) (v := .ref (x 5)) (C := RX4) (T := TX4) (N := 7) hx hb hts i_X4 hown hK.1 hM_7 0 rfl rfl 4 (by decide) (hts _ w_179) (fun _ h9 => h9) rfl dX4_addIdealCard_56 ?_
            refine k_callPI (k_goV (rest := []) hC hK (c_X2_existAsIdealCard l g (x 5) ((f 8) + sh) ((f 9) + sh) ((f 10) + sh) ((f 11) - sh)) L_X4_X2_existAsIdealCard (⟨⟨Nat.le_of_ble_eq_true rfl, Nat.le_of_ble_eq_true rfl⟩, ⟨rfl, rfl⟩, ⟨Nat.le_of_ble_eq_true rfl, Nat.le_of_ble_eq_true rfl⟩⟩) (k_recv hK (va_one hv_6) 0 rfl rfl) ((va_one hv_6)) rfl hl.1 rfl (Nat.le_of_ble_eq_true rfl) dX4_addIdealCard_59) ?_
            refine b_ifne (tgt := 68) hC dX4_addIdealCard_62 (by decide) (fun zc62 => ?_) (fun zc62 => ?_)
            · refine lv_aload_n hx hb dX4_addIdealCard_68 rfl (lvG hl rfl) ?_
              refine va_get (D := g.1) (ci := 4) (v := .ref (a 0)) (C := RX4) (T := TX4) (N := 7) hx hb hts i_X4 hown hK.1 hM_7 0 rfl rfl 0 (by decide) (hts _ w_175) (fun _ h9 => h9) rfl dX4_addIdealCard_69 ?_
              refine va_get (D := g.1) (ci := 3) (v := .int (f 61)) (C := RX3) (T := TX3) (N := 13) hx hb hts i_X3 hown hK.1 hM_7 2 rfl rfl 12 (by decide) (hts _ w_146) (fun _ h9 => h9) rfl dX4_addIdealCard_72 ?_
              rw [hc]
              refine lv_bipush (v := nI 10) hx hb dX4_addIdealCard_75 (by decide) ?_
              refine n_icmp_lt (tgt := 83) hC dX4_addIdealCard_77 (by omega) (by omega) (by decide) (fun zc77 => ?_) (fun zc77 => ?_)
              · refine lv_aload_n hx hb dX4_addIdealCard_83 rfl (lvG hl rfl) ?_
                refine k_callMV0 (k_goV (rest := []) hC hK (c_X4_recordState l g x a M f n) L_X4_X4_recordState (⟨⟨Nat.le_of_ble_eq_true rfl, Nat.le_of_ble_eq_true rfl⟩, ⟨rfl, rfl⟩, ⟨Nat.le_of_ble_eq_true rfl, Nat.le_of_ble_eq_true rfl⟩⟩) (k_recv hK hM_7 0 rfl rfl) (hXW_8) rfl hl.1 rfl (Nat.le_of_ble_eq_true rfl) dX4_addIdealCard_84) hS_4 (fun _ h => Or.inl (Or.inl h)) (fun H_9 locs_10 hQ_11 hz_ hk_13 hS_12 => ?_)
                have hv_14 : va_at g.1 kCl ((x 5, .inr (2, [.int ((f 8) + sh), .int ((f 9) + sh), .int ((f 10) + sh), .int ((f 11) - sh)]))) H_9 := va_at.kept hv_6 (hk_13 (x 5) hv_6.lt (fun c => hm _ c sc_5))
                obtain ⟨f15, ef15⟩ : ∃ z, z = s_rec f n := ⟨_, rfl⟩
                rw [← ef15] at hQ_11
                obtain ⟨hn15, hm15, hx015, d15, r15, hs15, w015, hM15, hD15, hR15, hB15⟩ := hQ_11
                obtain ⟨ws15, ews15⟩ := hR15.trial
                subst ews15
                have hXW15 := XW.mk hn15 hm15 hx015 hM15 hD15 hR15 hB15
                have hF15 : KF M H_9 H_9 := KF.rf
                have hDM15 := hD15
                have hD15 := va_D.weaken (B := fun q => MF x M q ∨ sz ≤ q) hD15 (fun k q h c => (fun _ h => Or.inl (Or.inl h)) _ c)
                have hl3 : a 3 < Array.size H_9 := (hM15 6 _ rfl).lt
                have hl4 : a 4 < Array.size H_9 := (hM15 7 _ rfl).lt
                have hl5 : a 5 < Array.size H_9 := (hM15 8 _ rfl).lt
                have hls : Array.size s.heap ≤ Array.size H_9 := hS_12.1
                have hlx0 : x 0 < Array.size H_9 := (hM15 0 _ rfl).lt
                have hla0 : a 0 < Array.size H_9 := (hM15 2 _ rfl).lt
                have hl_16 : x 5 < Array.size H_9 := hv_14.lt
                refine k_newO (ci := 0) (fs := [.int (nI 0), .int (nI 0), .null, .null]) (C := RX0) (T := TX0) (N := 4) hC hK i_X0 tyX0 tyX0_ok w_40 w_41 w_26 hS_12 rfl (by exact bl_X0) (Nat.le_of_ble_eq_true rfl) (Nat.le_of_ble_eq_true rfl) dX4_addIdealCard_87 (fun q_17 H_18 eq_19 hv_20 hz_21 hk_22 hS_23 => ?_)
                have hv_24 : va_at g.1 kCl ((x 5, .inr (2, [.int ((f 8) + sh), .int ((f 9) + sh), .int ((f 10) + sh), .int ((f 11) - sh)]))) H_18 := va_at.kept hv_14 (hk_22 _ hv_14.lt)
                have hM_25 : va_P g.1 kCl ([(x 0, .inr (4, [.ref (a 0), .ref (x 1), .int (nI (s_recn n)), .ref (x 2), .ref (x 5), .ref (x 6), .ref (x 7)])), (x 1, .inl (g.2.2.2, 4, .inr (.inr (.inr (.inr hs15))))), (a 0, .inr (3, [.int (f15 0), .int (f15 1), .int (f15 2), .int (f15 3), .int (f15 4), .int (f15 5), .int (f15 6), .int (f15 7), .ref (a 1), .ref (a 2), .ref (a 3), .ref (a 6), .int (f15 61)])), (a 6, .inl (g.2.2.1, 10, .inr (.inr (.inr (.inr r15))))), (a 1, .inr (2, [.int (f15 8), .int (f15 9), .int (f15 10), .int (f15 11)])), (a 2, .inr (2, [.int (f15 12), .int (f15 13), .int (f15 14), .int (f15 15)])), (a 3, .inr (1, [.int (f15 16), .int (f15 17), .int (f15 18), .ref (a 4), .ref (a 5)])), cI g (a 4) 21 d15, cI g (a 5) 21 ((fun k => d15 (21 + k))), (x 2, .inr (0, [.int (nI 0), .int (nI 0), .ref (x 3), .ref (x 4)]))] ++ ws15) H_18 := va_P.kept hM15 (fun k z hz9 => hk_22 z.1 (hM15 k z hz9).lt)
                have hF_26 := KF.gen hF15 (by rw [hz_21]; omega) (fun q h1 h2 => hk_22 q (Nat.lt_of_lt_of_le h1 hF15.1))
                refine lv_dup hx hb dX4_addIdealCard_90 rfl ?_
                refine k_callMV (k_goI (rest := [.ref q_17]) hC hK (c_X0_init l g q_17 (H_18.size)) L_X4_X0_init (⟨⟨Nat.le_of_ble_eq_true rfl, Nat.le_of_ble_eq_true rfl⟩, ⟨rfl, rfl⟩, ⟨Nat.le_of_ble_eq_true rfl, Nat.le_of_ble_eq_true rfl⟩⟩) (⟨rfl, hv_20⟩) rfl hl.1 rfl (Nat.le_of_ble_eq_true rfl) dX4_addIdealCard_91) hS_23 (fun z hz9 => by have hz8 : z = q_17 ∨ H_18.size ≤ z := hz9; show MF x M z ∨ sz ≤ z; omega) (fun H_27 locs_28 hQ_29 hz_ hk_31 hS_30 => ?_)
                obtain ⟨q_32, eq_33⟩ : ∃ z, z = Array.size H_18 := ⟨_, rfl⟩
                have hv_34 : va_at g.1 kCl ((x 5, .inr (2, [.int ((f 8) + sh), .int ((f 9) + sh), .int ((f 10) + sh), .int ((f 11) - sh)]))) H_27 := va_at.kept hv_24 (hk_31 (x 5) hv_24.lt (by have hlt9 := hv_24.lt; show ¬ (x 5 = q_17 ∨ Array.size H_18 ≤ x 5); omega))
                have hM_35 : va_P g.1 kCl ([(x 0, .inr (4, [.ref (a 0), .ref (x 1), .int (nI (s_recn n)), .ref (x 2), .ref (x 5), .ref (x 6), .ref (x 7)])), (x 1, .inl (g.2.2.2, 4, .inr (.inr (.inr (.inr hs15))))), (a 0, .inr (3, [.int (f15 0), .int (f15 1), .int (f15 2), .int (f15 3), .int (f15 4), .int (f15 5), .int (f15 6), .int (f15 7), .ref (a 1), .ref (a 2), .ref (a 3), .ref (a 6), .int (f15 61)])), (a 6, .inl (g.2.2.1, 10, .inr (.inr (.inr (.inr r15))))), (a 1, .inr (2, [.int (f15 8), .int (f15 9), .int (f15 10), .int (f15 11)])), (a 2, .inr (2, [.int (f15 12), .int (f15 13), .int (f15 14), .int (f15 15)])), (a 3, .inr (1, [.int (f15 16), .int (f15 17), .int (f15 18), .ref (a 4), .ref (a 5)])), cI g (a 4) 21 d15, cI g (a 5) 21 ((fun k => d15 (21 + k))), (x 2, .inr (0, [.int (nI 0), .int (nI 0), .ref (x 3), .ref (x 4)]))] ++ ws15) H_27 := va_P.kept hM_25 (fun k z hz9 => hk_31 z.1 (hM_25 k z hz9).lt (by have h9 := (hM15 k z hz9).lt; have h8 := (hM_25 k z hz9).lt; show ¬ (z.1 = q_17 ∨ Array.size H_18 ≤ z.1); omega))
                have hF_36 := KF.gen hF_26 hz_ (fun q h1 h2 => hk_31 q (Nat.lt_of_lt_of_le h1 hF_26.1) (by have h9 := hF_26.1; show ¬ (q = q_17 ∨ Array.size H_18 ≤ q); omega))
                rw [← eq_33] at hQ_29
                obtain ⟨hz_37, hpp_38⟩ := hQ_29
                have hv_39 : va_at g.1 kCl ((q_17, .inr (0, [.int (nI 0), .int (nI 0), .ref q_32, .ref (q_32 + 1)]))) H_27 := hpp_38 0 _ rfl
                have hv_40 : va_at g.1 kCl (cI g q_32 21 ((fun _ => nI 0))) H_27 := hpp_38 1 _ rfl
                have hv_41 : va_at g.1 kCl (cI g (q_32 + 1) 21 ((fun _ => nI 0))) H_27 := hpp_38 2 _ rfl
                refine lv_astore (lv' := [(5, .ref q_17), (0, .ref (x 0)), (1, .int (nI 0)), (2, .int (sp)), (3, .int (sh)), (4, .int (lk))]) hx hb dX4_addIdealCard_94 hl (by decide) rfl (fun ls hl => ?_)
                refine lv_aload hx hb dX4_addIdealCard_96 (lvG hl rfl) ?_
                refine lv_iload_n hx hb dX4_addIdealCard_98 rfl (lvG hl rfl) ?_
                refine k_putO (ci := 0) (v := .int (nI 0)) (ty := .int) (C := RX0) (T := TX0) (N := 4) hC hK i_X0 tyX0 tyX0_ok nmX0 ((va_one hv_39)) (D1 (A := fun z => MF x M z ∨ sz ≤ z) (show MF x M q_17 ∨ sz ≤ q_17 by omega)) hS_30 0 rfl rfl 0 (by decide) w_46 (fun _ h9 => h9) rfl (by decide +kernel) rfl rfl (Nat.le_of_ble_eq_true rfl) dX4_addIdealCard_99 (fun H_42 locs_43 hP_44 hD_45 hS_46 hz_47 hk_48 => ?_)
                have hv_49 : va_at g.1 kCl ((x 5, .inr (2, [.int ((f 8) + sh), .int ((f 9) + sh), .int ((f 10) + sh), .int ((f 11) - sh)]))) H_42 := va_at.kept hv_34 (hk_48 (x 5) (by omega))
                have hv_50 : va_at g.1 kCl (cI g q_32 21 ((fun _ => nI 0))) H_42 := va_at.kept hv_40 (hk_48 q_32 (by omega))
                have hv_51 : va_at g.1 kCl (cI g (q_32 + 1) 21 ((fun _ => nI 0))) H_42 := va_at.kept hv_41 (hk_48 (q_32 + 1) (by omega))
                have hv_52 : va_at g.1 kCl ((q_17, .inr (0, [.int (nI 0), .int (nI 0), .ref q_32, .ref (q_32 + 1)]))) H_42 := hP_44 0 _ rfl
                have hM_53 : va_P g.1 kCl ([(x 0, .inr (4, [.ref (a 0), .ref (x 1), .int (nI (s_recn n)), .ref (x 2), .ref (x 5), .ref (x 6), .ref (x 7)])), (x 1, .inl (g.2.2.2, 4, .inr (.inr (.inr (.inr hs15))))), (a 0, .inr (3, [.int (f15 0), .int (f15 1), .int (f15 2), .int (f15 3), .int (f15 4), .int (f15 5), .int (f15 6), .int (f15 7), .ref (a 1), .ref (a 2), .ref (a 3), .ref (a 6), .int (f15 61)])), (a 6, .inl (g.2.2.1, 10, .inr (.inr (.inr (.inr r15))))), (a 1, .inr (2, [.int (f15 8), .int (f15 9), .int (f15 10), .int (f15 11)])), (a 2, .inr (2, [.int (f15 12), .int (f15 13), .int (f15 14), .int (f15 15)])), (a 3, .inr (1, [.int (f15 16), .int (f15 17), .int (f15 18), .ref (a 4), .ref (a 5)])), cI g (a 4) 21 d15, cI g (a 5) 21 ((fun k => d15 (21 + k))), (x 2, .inr (0, [.int (nI 0), .int (nI 0), .ref (x 3), .ref (x 4)]))] ++ ws15) H_42 := va_P.kept hM_35 (fun k z hz9 => hk_48 z.1 (by have h9 := (hM15 k z hz9).lt; omega))
                have hF_54 := KF.gen hF_36 (Nat.le_of_eq hz_47.symm) (fun q h1 h2 => hk_48 q (by omega))
                refine lv_aload hx hb dX4_addIdealCard_102 (lvG hl rfl) ?_
                refine lv_iload_n hx hb dX4_addIdealCard_104 rfl (lvG hl rfl) ?_
                refine k_putO (ci := 0) (v := .int (sp)) (ty := .int) (C := RX0) (T := TX0) (N := 4) hC hK i_X0 tyX0 tyX0_ok nmX0 ((va_one hv_52)) (D1 (A := fun z => MF x M z ∨ sz ≤ z) (show MF x M q_17 ∨ sz ≤ q_17 by omega)) hS_46 0 rfl rfl 1 (by decide) w_47 (fun _ h9 => h9) rfl (by decide +kernel) rfl rfl (Nat.le_of_ble_eq_true rfl) dX4_addIdealCard_105 (fun H_55 locs_56 hP_57 hD_58 hS_59 hz_60 hk_61 => ?_)
                have hv_62 : va_at g.1 kCl ((x 5, .inr (2, [.int ((f 8) + sh), .int ((f 9) + sh), .int ((f 10) + sh), .int ((f 11) - sh)]))) H_55 := va_at.kept hv_49 (hk_61 (x 5) (by omega))
                have hv_63 : va_at g.1 kCl (cI g q_32 21 ((fun _ => nI 0))) H_55 := va_at.kept hv_50 (hk_61 q_32 (by omega))
                have hv_64 : va_at g.1 kCl (cI g (q_32 + 1) 21 ((fun _ => nI 0))) H_55 := va_at.kept hv_51 (hk_61 (q_32 + 1) (by omega))
                have hv_65 : va_at g.1 kCl ((q_17, .inr (0, [.int (nI 0), .int (sp), .ref q_32, .ref (q_32 + 1)]))) H_55 := hP_57 0 _ rfl
                have hM_66 : va_P g.1 kCl ([(x 0, .inr (4, [.ref (a 0), .ref (x 1), .int (nI (s_recn n)), .ref (x 2), .ref (x 5), .ref (x 6), .ref (x 7)])), (x 1, .inl (g.2.2.2, 4, .inr (.inr (.inr (.inr hs15))))), (a 0, .inr (3, [.int (f15 0), .int (f15 1), .int (f15 2), .int (f15 3), .int (f15 4), .int (f15 5), .int (f15 6), .int (f15 7), .ref (a 1), .ref (a 2), .ref (a 3), .ref (a 6), .int (f15 61)])), (a 6, .inl (g.2.2.1, 10, .inr (.inr (.inr (.inr r15))))), (a 1, .inr (2, [.int (f15 8), .int (f15 9), .int (f15 10), .int (f15 11)])), (a 2, .inr (2, [.int (f15 12), .int (f15 13), .int (f15 14), .int (f15 15)])), (a 3, .inr (1, [.int (f15 16), .int (f15 17), .int (f15 18), .ref (a 4), .ref (a 5)])), cI g (a 4) 21 d15, cI g (a 5) 21 ((fun k => d15 (21 + k))), (x 2, .inr (0, [.int (nI 0), .int (nI 0), .ref (x 3), .ref (x 4)]))] ++ ws15) H_55 := va_P.kept hM_53 (fun k z hz9 => hk_61 z.1 (by have h9 := (hM15 k z hz9).lt; omega))
                have hF_67 := KF.gen hF_54 (Nat.le_of_eq hz_60.symm) (fun q h1 h2 => hk_61 q (by omega))
                refine lv_aload_n hx hb dX4_addIdealCard_108 rfl (lvG hl rfl) ?_
                refine lv_aload hx hb dX4_addIdealCard_109 (lvG hl rfl) ?_
                refine lv_aload_n hx hb dX4_addIdealCard_111 rfl (lvG hl rfl) ?_
                refine va_get (D := g.1) (ci := 4) (v := .ref (x 5)) (C := RX4) (T := TX4) (N := 7) hx hb hts i_X4 hown hK.1 hM_66 0 rfl rfl 4 (by decide) (hts _ w_179) (fun _ h9 => h9) rfl dX4_addIdealCard_112 ?_
                refine lv_iload hx hb dX4_addIdealCard_115 (lvG hl rfl) ?_
                refine k_callMV0 (k_goV (rest := []) hC hK (c_X4_drawIdealCard l g x a (s_recn n) f15 (x 5) ((f 8) + sh) ((f 9) + sh) ((f 10) + sh) ((f 11) - sh) q_17 q_32 (q_32 + 1) (nI 0) sp ((fun _ => nI 0)) ((fun _ => nI 0)) lk (by omega)) L_X4_X4_drawIdealCard (⟨⟨Nat.le_of_ble_eq_true rfl, Nat.le_of_ble_eq_true rfl⟩, ⟨rfl, rfl⟩, ⟨Nat.le_of_ble_eq_true rfl, Nat.le_of_ble_eq_true rfl⟩⟩) (k_recv hK hM_66 0 rfl rfl) (⟨XK4q (va_P.app (hM_66.sub [0, 2] rfl) (va_P.app (va_one hv_62) (va_one hv_65))) (by omega) (by omega) (by omega) (by omega), va_P.app (va_one hv_63) (va_one hv_64)⟩) rfl hl.1 rfl (Nat.le_of_ble_eq_true rfl) dX4_addIdealCard_117) hS_59 (fun z hz9 => by have hz8 : z = q_32 ∨ z = q_32 + 1 := hz9; show MF x M z ∨ sz ≤ z; omega) (fun H_68 locs_69 hQ_70 hz_ hk_72 hS_71 => ?_)
                have hv_73 : va_at g.1 kCl ((x 5, .inr (2, [.int ((f 8) + sh), .int ((f 9) + sh), .int ((f 10) + sh), .int ((f 11) - sh)]))) H_68 := va_at.kept hv_62 (hk_72 (x 5) hv_62.lt (by have hlt9 := hv_62.lt; show ¬ (x 5 = q_32 ∨ x 5 = q_32 + 1); omega))
                have hv_74 : va_at g.1 kCl ((q_17, .inr (0, [.int (nI 0), .int (sp), .ref q_32, .ref (q_32 + 1)]))) H_68 := va_at.kept hv_65 (hk_72 q_17 hv_65.lt (by have hlt9 := hv_65.lt; show ¬ (q_17 = q_32 ∨ q_17 = q_32 + 1); omega))
                have hM_75 : va_P g.1 kCl ([(x 0, .inr (4, [.ref (a 0), .ref (x 1), .int (nI (s_recn n)), .ref (x 2), .ref (x 5), .ref (x 6), .ref (x 7)])), (x 1, .inl (g.2.2.2, 4, .inr (.inr (.inr (.inr hs15))))), (a 0, .inr (3, [.int (f15 0), .int (f15 1), .int (f15 2), .int (f15 3), .int (f15 4), .int (f15 5), .int (f15 6), .int (f15 7), .ref (a 1), .ref (a 2), .ref (a 3), .ref (a 6), .int (f15 61)])), (a 6, .inl (g.2.2.1, 10, .inr (.inr (.inr (.inr r15))))), (a 1, .inr (2, [.int (f15 8), .int (f15 9), .int (f15 10), .int (f15 11)])), (a 2, .inr (2, [.int (f15 12), .int (f15 13), .int (f15 14), .int (f15 15)])), (a 3, .inr (1, [.int (f15 16), .int (f15 17), .int (f15 18), .ref (a 4), .ref (a 5)])), cI g (a 4) 21 d15, cI g (a 5) 21 ((fun k => d15 (21 + k))), (x 2, .inr (0, [.int (nI 0), .int (nI 0), .ref (x 3), .ref (x 4)]))] ++ ws15) H_68 := va_P.kept hM_66 (fun k z hz9 => hk_72 z.1 (hM_66 k z hz9).lt (by have h9 := (hM15 k z hz9).lt; show ¬ (z.1 = q_32 ∨ z.1 = q_32 + 1); omega))
                have hF_76 := KF.gen hF_67 hz_ (fun q h1 h2 => hk_72 q (Nat.lt_of_lt_of_le h1 hF_67.1) (by have h9 := hF_67.1; show ¬ (q = q_32 ∨ q = q_32 + 1); omega))
                have hv_77 : va_at g.1 kCl (cI g q_32 21 ((s_fl ((fun _ => nI 0)) 0 (k_do f15 ((f 8) + sh) ((f 9) + sh) ((f 10) + sh) lk) 21))) H_68 := hQ_70 0 _ rfl
                have hv_78 : va_at g.1 kCl (cI g (q_32 + 1) 21 ((s_fl ((fun _ => nI 0)) 0 (k_di f15 ((f 11) - sh)) 21))) H_68 := hQ_70 1 _ rfl
                refine lv_aload_n hx hb dX4_addIdealCard_120 rfl (lvG hl rfl) ?_
                refine lv_aload hx hb dX4_addIdealCard_121 (lvG hl rfl) ?_
                refine k_callMI0 (k_goV (rest := []) hC hK (c_X4_addCard l g x a M f15 (s_recn n) cn (by rw [ef15, s_rec_lo _ _ (by omega), hc]) (by omega) q_17 q_32 (q_32 + 1) (nI 0) sp (k_p2 (k_do f15 ((f 8) + sh) ((f 9) + sh) ((f 10) + sh) lk) (k_di f15 ((f 11) - sh)))) L_X4_X4_addCard (⟨⟨Nat.le_of_ble_eq_true rfl, Nat.le_of_ble_eq_true rfl⟩, ⟨rfl, rfl⟩, ⟨Nat.le_of_ble_eq_true rfl, Nat.le_of_ble_eq_true rfl⟩⟩) (k_recv hK hM_75 0 rfl rfl) (⟨XW.close (ws := cTr x :: ws15) (d' := d15) (r' := r15) hXW15 hM_75 (va_Dre hDM15 rfl) hR15 hF_76.2 (fun j h1 h2 => rfl) (hB15.kept (fun q h c => hF_76.2 q h (fun z => c (Or.inl z)))), p2_C hv_74 hv_77 hv_78, (fun c => by have := hMU _ c; omega), (fun c => by have := hMU _ c; omega), (fun c => by have := hMU _ c; omega)⟩) rfl hl.1 rfl (Nat.le_of_ble_eq_true rfl) dX4_addIdealCard_123) hS_71 (fun _ h => Or.inl (Or.inl h)) (fun r_ H_79 locs_80 hQ_81 hz_ hk_83 hS_82 => ?_)
                obtain ⟨hv_r, hX_r⟩ := hQ_81
                refine W.widen (k := 3) (n := 46) (by omega) (by omega) ?_
                exact k_iretM hC hr hlk hS_82 dX4_addIdealCard_126 (by first | exact ai_t (j := 0) ⟨zc4, zc11, zc21, zc33⟩ (by rw [e_zj, z0]) zc62 (by omega) (by rw [ev_zj, z0]) ef15 hv_r hX_r | exact ai_t (j := 1) ⟨zc4, zc11, zc21, zc33⟩ (by rw [e_zj, z0]) zc62 (by omega) (by rw [ev_zj, z0]) ef15 hv_r hX_r)
              · refine lv_ldc (v := (-2000000003 : Int32)) hx hb hown (hts _ w_279) dX4_addIdealCard_80 ?_
                refine W.widen (k := 3) (n := 46) (by omega) (by omega) ?_
                exact k_iretM hC hr hlk hS_4 dX4_addIdealCard_82 (by first | exact ai_c (j := 0) ⟨zc4, zc11, zc21, zc33⟩ (by rw [e_zj, z0]) zc62 (by omega) hXW_8 | exact ai_c (j := 1) ⟨zc4, zc11, zc21, zc33⟩ (by rw [e_zj, z0]) zc62 (by omega) hXW_8)
            · refine lv_ldc (v := (-2000000002 : Int32)) hx hb hown (hts _ w_267) dX4_addIdealCard_65 ?_
              refine W.widen (k := 3) (n := 46) (by omega) (by omega) ?_
              exact k_iretM hC hr hlk hS_4 dX4_addIdealCard_67 (by first | exact ai_x (j := 0) ⟨zc4, zc11, zc21, zc33⟩ (by rw [e_zj, z0]) zc62 hXW_8 | exact ai_x (j := 1) ⟨zc4, zc11, zc21, zc33⟩ (by rw [e_zj, z0]) zc62 hXW_8)
          · have hl : lv_has ls 6 [(0, .ref (x 0)), (1, .int (nI 1)), (2, .int (sp)), (3, .int (sh)), (4, .int (lk))] := lv_eq hl (by rw [z0])
            refine lv_aload_n hx hb dX4_addIdealCard_39 rfl (lvG hl rfl) ?_
            refine va_get (D := g.1) (ci := 4) (v := .ref (x 5)) (C := RX4) (T := TX4) (N := 7) hx hb hts i_X4 hown hK.1 hM 0 rfl rfl 4 (by decide) (hts _ w_179) (fun _ h9 => h9) rfl dX4_addIdealCard_40 ?_
            refine lv_aload_n hx hb dX4_addIdealCard_43 rfl (lvG hl rfl) ?_
            refine va_get (D := g.1) (ci := 4) (v := .ref (a 0)) (C := RX4) (T := TX4) (N := 7) hx hb hts i_X4 hown hK.1 hM 0 rfl rfl 0 (by decide) (hts _ w_175) (fun _ h9 => h9) rfl dX4_addIdealCard_44 ?_
            refine lv_iload_n hx hb dX4_addIdealCard_47 rfl (lvG hl rfl) ?_
            refine k_callPR (k_goV (rest := [.ref (x 5)]) hC hK (c_X3_valvesOf l g a f (nI 1)) L_X4_X3_valvesOf (⟨⟨Nat.le_of_ble_eq_true rfl, Nat.le_of_ble_eq_true rfl⟩, ⟨rfl, rfl⟩, ⟨Nat.le_of_ble_eq_true rfl, Nat.le_of_ble_eq_true rfl⟩⟩) (k_recv hK hM 2 rfl rfl) ((va_P.sub hM [2] rfl)) rfl hl.1 rfl (Nat.le_of_ble_eq_true rfl) dX4_addIdealCard_48) ?_
            rw [if_neg (show ¬ nI 1 = nI 0 by decide)]
            refine lv_iload_n hx hb dX4_addIdealCard_51 rfl (lvG hl rfl) ?_
            refine k_callMV0 (k_goV (rest := []) hC hK (c_X2_copyShifted l g (x 5) (te0 0) (te0 1) (te0 2) (te0 3) (a 2) (f 12) (f 13) (f 14) (f 15) sh) L_X4_X2_copyShifted (⟨⟨Nat.le_of_ble_eq_true rfl, Nat.le_of_ble_eq_true rfl⟩, ⟨rfl, rfl⟩, ⟨Nat.le_of_ble_eq_true rfl, Nat.le_of_ble_eq_true rfl⟩⟩) (k_recv hK (va_one hv5) 0 rfl rfl) (⟨(va_one hv5), XK1 (hM 5 _ rfl) (fun c => hm _ (hDM.2 5 _ rfl) (by rw [show (a 2 : Nat) = x 5 from c]; exact sc_5))⟩) rfl hl.1 rfl (Nat.le_of_ble_eq_true rfl) dX4_addIdealCard_52) hS (fun z c => Or.inl (Or.inr (by rw [show z = x 5 from c]; exact sc_5))) (fun H_84 locs_85 hQ_86 hz_ hk_88 hS_87 => ?_)
            have hv_89 : va_at g.1 kCl ((x 5, .inr (2, [.int ((f 12) + sh), .int ((f 13) + sh), .int ((f 14) + sh), .int ((f 15) - sh)]))) H_84 := hQ_86 0 _ rfl
            have hM_90 : va_P g.1 kCl ([(x 0, .inr (4, [.ref (a 0), .ref (x 1), .int (nI n), .ref (x 2), .ref (x 5), .ref (x 6), .ref (x 7)])), (x 1, .inl (g.2.2.2, 4, .inr (.inr (.inr (.inr hs))))), (a 0, .inr (3, [.int (f 0), .int (f 1), .int (f 2), .int (f 3), .int (f 4), .int (f 5), .int (f 6), .int (f 7), .ref (a 1), .ref (a 2), .ref (a 3), .ref (a 6), .int (f 61)])), (a 6, .inl (g.2.2.1, 10, .inr (.inr (.inr (.inr r))))), (a 1, .inr (2, [.int (f 8), .int (f 9), .int (f 10), .int (f 11)])), (a 2, .inr (2, [.int (f 12), .int (f 13), .int (f 14), .int (f 15)])), (a 3, .inr (1, [.int (f 16), .int (f 17), .int (f 18), .ref (a 4), .ref (a 5)])), cI g (a 4) 21 d, cI g (a 5) 21 ((fun k => d (21 + k))), (x 2, .inr (0, [.int (nI 0), .int (nI 0), .ref (x 3), .ref (x 4)]))] ++ ws) H_84 := va_P.kept hM (fun k z hz9 => hk_88 z.1 (hM k z hz9).lt (fun c => hm z.1 (hDM.2 k z hz9) (by rw [show z.1 = x 5 from c]; exact sc_5)))
            have hXW_91 := XW.te hXW hk_88 hv_89
            refine lv_aload_n hx hb dX4_addIdealCard_55 rfl (lvG hl rfl) ?_
            refine va_get (D := g.1) (ci := 4) (v := .ref (x 5)) (C := RX4) (T := TX4) (N := 7) hx hb hts i_X4 hown hK.1 hM_90 0 rfl rfl 4 (by decide) (hts _ w_179) (fun _ h9 => h9) rfl dX4_addIdealCard_56 ?_
            refine k_callPI (k_goV (rest := []) hC hK (c_X2_existAsIdealCard l g (x 5) ((f 12) + sh) ((f 13) + sh) ((f 14) + sh) ((f 15) - sh)) L_X4_X2_existAsIdealCard (⟨⟨Nat.le_of_ble_eq_true rfl, Nat.le_of_ble_eq_true rfl⟩, ⟨rfl, rfl⟩, ⟨Nat.le_of_ble_eq_true rfl, Nat.le_of_ble_eq_true rfl⟩⟩) (k_recv hK (va_one hv_89) 0 rfl rfl) ((va_one hv_89)) rfl hl.1 rfl (Nat.le_of_ble_eq_true rfl) dX4_addIdealCard_59) ?_
            refine b_ifne (tgt := 68) hC dX4_addIdealCard_62 (by decide) (fun zc62 => ?_) (fun zc62 => ?_)
            · refine lv_aload_n hx hb dX4_addIdealCard_68 rfl (lvG hl rfl) ?_
              refine va_get (D := g.1) (ci := 4) (v := .ref (a 0)) (C := RX4) (T := TX4) (N := 7) hx hb hts i_X4 hown hK.1 hM_90 0 rfl rfl 0 (by decide) (hts _ w_175) (fun _ h9 => h9) rfl dX4_addIdealCard_69 ?_
              refine va_get (D := g.1) (ci := 3) (v := .int (f 61)) (C := RX3) (T := TX3) (N := 13) hx hb hts i_X3 hown hK.1 hM_90 2 rfl rfl 12 (by decide) (hts _ w_146) (fun _ h9 => h9) rfl dX4_addIdealCard_72 ?_
              rw [hc]
              refine lv_bipush (v := nI 10) hx hb dX4_addIdealCard_75 (by decide) ?_
              refine n_icmp_lt (tgt := 83) hC dX4_addIdealCard_77 (by omega) (by omega) (by decide) (fun zc77 => ?_) (fun zc77 => ?_)
              · refine lv_aload_n hx hb dX4_addIdealCard_83 rfl (lvG hl rfl) ?_
                refine k_callMV0 (k_goV (rest := []) hC hK (c_X4_recordState l g x a M f n) L_X4_X4_recordState (⟨⟨Nat.le_of_ble_eq_true rfl, Nat.le_of_ble_eq_true rfl⟩, ⟨rfl, rfl⟩, ⟨Nat.le_of_ble_eq_true rfl, Nat.le_of_ble_eq_true rfl⟩⟩) (k_recv hK hM_90 0 rfl rfl) (hXW_91) rfl hl.1 rfl (Nat.le_of_ble_eq_true rfl) dX4_addIdealCard_84) hS_87 (fun _ h => Or.inl (Or.inl h)) (fun H_92 locs_93 hQ_94 hz_ hk_96 hS_95 => ?_)
                have hv_97 : va_at g.1 kCl ((x 5, .inr (2, [.int ((f 12) + sh), .int ((f 13) + sh), .int ((f 14) + sh), .int ((f 15) - sh)]))) H_92 := va_at.kept hv_89 (hk_96 (x 5) hv_89.lt (fun c => hm _ c sc_5))
                obtain ⟨f98, ef98⟩ : ∃ z, z = s_rec f n := ⟨_, rfl⟩
                rw [← ef98] at hQ_94
                obtain ⟨hn98, hm98, hx098, d98, r98, hs98, w098, hM98, hD98, hR98, hB98⟩ := hQ_94
                obtain ⟨ws98, ews98⟩ := hR98.trial
                subst ews98
                have hXW98 := XW.mk hn98 hm98 hx098 hM98 hD98 hR98 hB98
                have hF98 : KF M H_92 H_92 := KF.rf
                have hDM98 := hD98
                have hD98 := va_D.weaken (B := fun q => MF x M q ∨ sz ≤ q) hD98 (fun k q h c => (fun _ h => Or.inl (Or.inl h)) _ c)
                have hl3 : a 3 < Array.size H_92 := (hM98 6 _ rfl).lt
                have hl4 : a 4 < Array.size H_92 := (hM98 7 _ rfl).lt
                have hl5 : a 5 < Array.size H_92 := (hM98 8 _ rfl).lt
                have hls : Array.size s.heap ≤ Array.size H_92 := hS_95.1
                have hlx0 : x 0 < Array.size H_92 := (hM98 0 _ rfl).lt
                have hla0 : a 0 < Array.size H_92 := (hM98 2 _ rfl).lt
                have hl_99 : x 5 < Array.size H_92 := hv_97.lt
                refine k_newO (ci := 0) (fs := [.int (nI 0), .int (nI 0), .null, .null]) (C := RX0) (T := TX0) (N := 4) hC hK i_X0 tyX0 tyX0_ok w_40 w_41 w_26 hS_95 rfl (by exact bl_X0) (Nat.le_of_ble_eq_true rfl) (Nat.le_of_ble_eq_true rfl) dX4_addIdealCard_87 (fun q_100 H_101 eq_102 hv_103 hz_104 hk_105 hS_106 => ?_)
                have hv_107 : va_at g.1 kCl ((x 5, .inr (2, [.int ((f 12) + sh), .int ((f 13) + sh), .int ((f 14) + sh), .int ((f 15) - sh)]))) H_101 := va_at.kept hv_97 (hk_105 _ hv_97.lt)
                have hM_108 : va_P g.1 kCl ([(x 0, .inr (4, [.ref (a 0), .ref (x 1), .int (nI (s_recn n)), .ref (x 2), .ref (x 5), .ref (x 6), .ref (x 7)])), (x 1, .inl (g.2.2.2, 4, .inr (.inr (.inr (.inr hs98))))), (a 0, .inr (3, [.int (f98 0), .int (f98 1), .int (f98 2), .int (f98 3), .int (f98 4), .int (f98 5), .int (f98 6), .int (f98 7), .ref (a 1), .ref (a 2), .ref (a 3), .ref (a 6), .int (f98 61)])), (a 6, .inl (g.2.2.1, 10, .inr (.inr (.inr (.inr r98))))), (a 1, .inr (2, [.int (f98 8), .int (f98 9), .int (f98 10), .int (f98 11)])), (a 2, .inr (2, [.int (f98 12), .int (f98 13), .int (f98 14), .int (f98 15)])), (a 3, .inr (1, [.int (f98 16), .int (f98 17), .int (f98 18), .ref (a 4), .ref (a 5)])), cI g (a 4) 21 d98, cI g (a 5) 21 ((fun k => d98 (21 + k))), (x 2, .inr (0, [.int (nI 0), .int (nI 0), .ref (x 3), .ref (x 4)]))] ++ ws98) H_101 := va_P.kept hM98 (fun k z hz9 => hk_105 z.1 (hM98 k z hz9).lt)
                have hF_109 := KF.gen hF98 (by rw [hz_104]; omega) (fun q h1 h2 => hk_105 q (Nat.lt_of_lt_of_le h1 hF98.1))
                refine lv_dup hx hb dX4_addIdealCard_90 rfl ?_
                refine k_callMV (k_goI (rest := [.ref q_100]) hC hK (c_X0_init l g q_100 (H_101.size)) L_X4_X0_init (⟨⟨Nat.le_of_ble_eq_true rfl, Nat.le_of_ble_eq_true rfl⟩, ⟨rfl, rfl⟩, ⟨Nat.le_of_ble_eq_true rfl, Nat.le_of_ble_eq_true rfl⟩⟩) (⟨rfl, hv_103⟩) rfl hl.1 rfl (Nat.le_of_ble_eq_true rfl) dX4_addIdealCard_91) hS_106 (fun z hz9 => by have hz8 : z = q_100 ∨ H_101.size ≤ z := hz9; show MF x M z ∨ sz ≤ z; omega) (fun H_110 locs_111 hQ_112 hz_ hk_114 hS_113 => ?_)
                obtain ⟨q_115, eq_116⟩ : ∃ z, z = Array.size H_101 := ⟨_, rfl⟩
                have hv_117 : va_at g.1 kCl ((x 5, .inr (2, [.int ((f 12) + sh), .int ((f 13) + sh), .int ((f 14) + sh), .int ((f 15) - sh)]))) H_110 := va_at.kept hv_107 (hk_114 (x 5) hv_107.lt (by have hlt9 := hv_107.lt; show ¬ (x 5 = q_100 ∨ Array.size H_101 ≤ x 5); omega))
                have hM_118 : va_P g.1 kCl ([(x 0, .inr (4, [.ref (a 0), .ref (x 1), .int (nI (s_recn n)), .ref (x 2), .ref (x 5), .ref (x 6), .ref (x 7)])), (x 1, .inl (g.2.2.2, 4, .inr (.inr (.inr (.inr hs98))))), (a 0, .inr (3, [.int (f98 0), .int (f98 1), .int (f98 2), .int (f98 3), .int (f98 4), .int (f98 5), .int (f98 6), .int (f98 7), .ref (a 1), .ref (a 2), .ref (a 3), .ref (a 6), .int (f98 61)])), (a 6, .inl (g.2.2.1, 10, .inr (.inr (.inr (.inr r98))))), (a 1, .inr (2, [.int (f98 8), .int (f98 9), .int (f98 10), .int (f98 11)])), (a 2, .inr (2, [.int (f98 12), .int (f98 13), .int (f98 14), .int (f98 15)])), (a 3, .inr (1, [.int (f98 16), .int (f98 17), .int (f98 18), .ref (a 4), .ref (a 5)])), cI g (a 4) 21 d98, cI g (a 5) 21 ((fun k => d98 (21 + k))), (x 2, .inr (0, [.int (nI 0), .int (nI 0), .ref (x 3), .ref (x 4)]))] ++ ws98) H_110 := va_P.kept hM_108 (fun k z hz9 => hk_114 z.1 (hM_108 k z hz9).lt (by have h9 := (hM98 k z hz9).lt; have h8 := (hM_108 k z hz9).lt; show ¬ (z.1 = q_100 ∨ Array.size H_101 ≤ z.1); omega))
                have hF_119 := KF.gen hF_109 hz_ (fun q h1 h2 => hk_114 q (Nat.lt_of_lt_of_le h1 hF_109.1) (by have h9 := hF_109.1; show ¬ (q = q_100 ∨ Array.size H_101 ≤ q); omega))
                rw [← eq_116] at hQ_112
                obtain ⟨hz_120, hpp_121⟩ := hQ_112
                have hv_122 : va_at g.1 kCl ((q_100, .inr (0, [.int (nI 0), .int (nI 0), .ref q_115, .ref (q_115 + 1)]))) H_110 := hpp_121 0 _ rfl
                have hv_123 : va_at g.1 kCl (cI g q_115 21 ((fun _ => nI 0))) H_110 := hpp_121 1 _ rfl
                have hv_124 : va_at g.1 kCl (cI g (q_115 + 1) 21 ((fun _ => nI 0))) H_110 := hpp_121 2 _ rfl
                refine lv_astore (lv' := [(5, .ref q_100), (0, .ref (x 0)), (1, .int (nI 1)), (2, .int (sp)), (3, .int (sh)), (4, .int (lk))]) hx hb dX4_addIdealCard_94 hl (by decide) rfl (fun ls hl => ?_)
                refine lv_aload hx hb dX4_addIdealCard_96 (lvG hl rfl) ?_
                refine lv_iload_n hx hb dX4_addIdealCard_98 rfl (lvG hl rfl) ?_
                refine k_putO (ci := 0) (v := .int (nI 1)) (ty := .int) (C := RX0) (T := TX0) (N := 4) hC hK i_X0 tyX0 tyX0_ok nmX0 ((va_one hv_122)) (D1 (A := fun z => MF x M z ∨ sz ≤ z) (show MF x M q_100 ∨ sz ≤ q_100 by omega)) hS_113 0 rfl rfl 0 (by decide) w_46 (fun _ h9 => h9) rfl (by decide +kernel) rfl rfl (Nat.le_of_ble_eq_true rfl) dX4_addIdealCard_99 (fun H_125 locs_126 hP_127 hD_128 hS_129 hz_130 hk_131 => ?_)
                have hv_132 : va_at g.1 kCl ((x 5, .inr (2, [.int ((f 12) + sh), .int ((f 13) + sh), .int ((f 14) + sh), .int ((f 15) - sh)]))) H_125 := va_at.kept hv_117 (hk_131 (x 5) (by omega))
                have hv_133 : va_at g.1 kCl (cI g q_115 21 ((fun _ => nI 0))) H_125 := va_at.kept hv_123 (hk_131 q_115 (by omega))
                have hv_134 : va_at g.1 kCl (cI g (q_115 + 1) 21 ((fun _ => nI 0))) H_125 := va_at.kept hv_124 (hk_131 (q_115 + 1) (by omega))
                have hv_135 : va_at g.1 kCl ((q_100, .inr (0, [.int (nI 1), .int (nI 0), .ref q_115, .ref (q_115 + 1)]))) H_125 := hP_127 0 _ rfl
                have hM_136 : va_P g.1 kCl ([(x 0, .inr (4, [.ref (a 0), .ref (x 1), .int (nI (s_recn n)), .ref (x 2), .ref (x 5), .ref (x 6), .ref (x 7)])), (x 1, .inl (g.2.2.2, 4, .inr (.inr (.inr (.inr hs98))))), (a 0, .inr (3, [.int (f98 0), .int (f98 1), .int (f98 2), .int (f98 3), .int (f98 4), .int (f98 5), .int (f98 6), .int (f98 7), .ref (a 1), .ref (a 2), .ref (a 3), .ref (a 6), .int (f98 61)])), (a 6, .inl (g.2.2.1, 10, .inr (.inr (.inr (.inr r98))))), (a 1, .inr (2, [.int (f98 8), .int (f98 9), .int (f98 10), .int (f98 11)])), (a 2, .inr (2, [.int (f98 12), .int (f98 13), .int (f98 14), .int (f98 15)])), (a 3, .inr (1, [.int (f98 16), .int (f98 17), .int (f98 18), .ref (a 4), .ref (a 5)])), cI g (a 4) 21 d98, cI g (a 5) 21 ((fun k => d98 (21 + k))), (x 2, .inr (0, [.int (nI 0), .int (nI 0), .ref (x 3), .ref (x 4)]))] ++ ws98) H_125 := va_P.kept hM_118 (fun k z hz9 => hk_131 z.1 (by have h9 := (hM98 k z hz9).lt; omega))
                have hF_137 := KF.gen hF_119 (Nat.le_of_eq hz_130.symm) (fun q h1 h2 => hk_131 q (by omega))
                refine lv_aload hx hb dX4_addIdealCard_102 (lvG hl rfl) ?_
                refine lv_iload_n hx hb dX4_addIdealCard_104 rfl (lvG hl rfl) ?_
                refine k_putO (ci := 0) (v := .int (sp)) (ty := .int) (C := RX0) (T := TX0) (N := 4) hC hK i_X0 tyX0 tyX0_ok nmX0 ((va_one hv_135)) (D1 (A := fun z => MF x M z ∨ sz ≤ z) (show MF x M q_100 ∨ sz ≤ q_100 by omega)) hS_129 0 rfl rfl 1 (by decide) w_47 (fun _ h9 => h9) rfl (by decide +kernel) rfl rfl (Nat.le_of_ble_eq_true rfl) dX4_addIdealCard_105 (fun H_138 locs_139 hP_140 hD_141 hS_142 hz_143 hk_144 => ?_)
                have hv_145 : va_at g.1 kCl ((x 5, .inr (2, [.int ((f 12) + sh), .int ((f 13) + sh), .int ((f 14) + sh), .int ((f 15) - sh)]))) H_138 := va_at.kept hv_132 (hk_144 (x 5) (by omega))
                have hv_146 : va_at g.1 kCl (cI g q_115 21 ((fun _ => nI 0))) H_138 := va_at.kept hv_133 (hk_144 q_115 (by omega))
                have hv_147 : va_at g.1 kCl (cI g (q_115 + 1) 21 ((fun _ => nI 0))) H_138 := va_at.kept hv_134 (hk_144 (q_115 + 1) (by omega))
                have hv_148 : va_at g.1 kCl ((q_100, .inr (0, [.int (nI 1), .int (sp), .ref q_115, .ref (q_115 + 1)]))) H_138 := hP_140 0 _ rfl
                have hM_149 : va_P g.1 kCl ([(x 0, .inr (4, [.ref (a 0), .ref (x 1), .int (nI (s_recn n)), .ref (x 2), .ref (x 5), .ref (x 6), .ref (x 7)])), (x 1, .inl (g.2.2.2, 4, .inr (.inr (.inr (.inr hs98))))), (a 0, .inr (3, [.int (f98 0), .int (f98 1), .int (f98 2), .int (f98 3), .int (f98 4), .int (f98 5), .int (f98 6), .int (f98 7), .ref (a 1), .ref (a 2), .ref (a 3), .ref (a 6), .int (f98 61)])), (a 6, .inl (g.2.2.1, 10, .inr (.inr (.inr (.inr r98))))), (a 1, .inr (2, [.int (f98 8), .int (f98 9), .int (f98 10), .int (f98 11)])), (a 2, .inr (2, [.int (f98 12), .int (f98 13), .int (f98 14), .int (f98 15)])), (a 3, .inr (1, [.int (f98 16), .int (f98 17), .int (f98 18), .ref (a 4), .ref (a 5)])), cI g (a 4) 21 d98, cI g (a 5) 21 ((fun k => d98 (21 + k))), (x 2, .inr (0, [.int (nI 0), .int (nI 0), .ref (x 3), .ref (x 4)]))] ++ ws98) H_138 := va_P.kept hM_136 (fun k z hz9 => hk_144 z.1 (by have h9 := (hM98 k z hz9).lt; omega))
                have hF_150 := KF.gen hF_137 (Nat.le_of_eq hz_143.symm) (fun q h1 h2 => hk_144 q (by omega))
                refine lv_aload_n hx hb dX4_addIdealCard_108 rfl (lvG hl rfl) ?_
                refine lv_aload hx hb dX4_addIdealCard_109 (lvG hl rfl) ?_
                refine lv_aload_n hx hb dX4_addIdealCard_111 rfl (lvG hl rfl) ?_
                refine va_get (D := g.1) (ci := 4) (v := .ref (x 5)) (C := RX4) (T := TX4) (N := 7) hx hb hts i_X4 hown hK.1 hM_149 0 rfl rfl 4 (by decide) (hts _ w_179) (fun _ h9 => h9) rfl dX4_addIdealCard_112 ?_
                refine lv_iload hx hb dX4_addIdealCard_115 (lvG hl rfl) ?_
                refine k_callMV0 (k_goV (rest := []) hC hK (c_X4_drawIdealCard l g x a (s_recn n) f98 (x 5) ((f 12) + sh) ((f 13) + sh) ((f 14) + sh) ((f 15) - sh) q_100 q_115 (q_115 + 1) (nI 1) sp ((fun _ => nI 0)) ((fun _ => nI 0)) lk (by omega)) L_X4_X4_drawIdealCard (⟨⟨Nat.le_of_ble_eq_true rfl, Nat.le_of_ble_eq_true rfl⟩, ⟨rfl, rfl⟩, ⟨Nat.le_of_ble_eq_true rfl, Nat.le_of_ble_eq_true rfl⟩⟩) (k_recv hK hM_149 0 rfl rfl) (⟨XK4q (va_P.app (hM_149.sub [0, 2] rfl) (va_P.app (va_one hv_145) (va_one hv_148))) (by omega) (by omega) (by omega) (by omega), va_P.app (va_one hv_146) (va_one hv_147)⟩) rfl hl.1 rfl (Nat.le_of_ble_eq_true rfl) dX4_addIdealCard_117) hS_142 (fun z hz9 => by have hz8 : z = q_115 ∨ z = q_115 + 1 := hz9; show MF x M z ∨ sz ≤ z; omega) (fun H_151 locs_152 hQ_153 hz_ hk_155 hS_154 => ?_)
                have hv_156 : va_at g.1 kCl ((x 5, .inr (2, [.int ((f 12) + sh), .int ((f 13) + sh), .int ((f 14) + sh), .int ((f 15) - sh)]))) H_151 := va_at.kept hv_145 (hk_155 (x 5) hv_145.lt (by have hlt9 := hv_145.lt; show ¬ (x 5 = q_115 ∨ x 5 = q_115 + 1); omega))
                have hv_157 : va_at g.1 kCl ((q_100, .inr (0, [.int (nI 1), .int (sp), .ref q_115, .ref (q_115 + 1)]))) H_151 := va_at.kept hv_148 (hk_155 q_100 hv_148.lt (by have hlt9 := hv_148.lt; show ¬ (q_100 = q_115 ∨ q_100 = q_115 + 1); omega))
                have hM_158 : va_P g.1 kCl ([(x 0, .inr (4, [.ref (a 0), .ref (x 1), .int (nI (s_recn n)), .ref (x 2), .ref (x 5), .ref (x 6), .ref (x 7)])), (x 1, .inl (g.2.2.2, 4, .inr (.inr (.inr (.inr hs98))))), (a 0, .inr (3, [.int (f98 0), .int (f98 1), .int (f98 2), .int (f98 3), .int (f98 4), .int (f98 5), .int (f98 6), .int (f98 7), .ref (a 1), .ref (a 2), .ref (a 3), .ref (a 6), .int (f98 61)])), (a 6, .inl (g.2.2.1, 10, .inr (.inr (.inr (.inr r98))))), (a 1, .inr (2, [.int (f98 8), .int (f98 9), .int (f98 10), .int (f98 11)])), (a 2, .inr (2, [.int (f98 12), .int (f98 13), .int (f98 14), .int (f98 15)])), (a 3, .inr (1, [.int (f98 16), .int (f98 17), .int (f98 18), .ref (a 4), .ref (a 5)])), cI g (a 4) 21 d98, cI g (a 5) 21 ((fun k => d98 (21 + k))), (x 2, .inr (0, [.int (nI 0), .int (nI 0), .ref (x 3), .ref (x 4)]))] ++ ws98) H_151 := va_P.kept hM_149 (fun k z hz9 => hk_155 z.1 (hM_149 k z hz9).lt (by have h9 := (hM98 k z hz9).lt; show ¬ (z.1 = q_115 ∨ z.1 = q_115 + 1); omega))
                have hF_159 := KF.gen hF_150 hz_ (fun q h1 h2 => hk_155 q (Nat.lt_of_lt_of_le h1 hF_150.1) (by have h9 := hF_150.1; show ¬ (q = q_115 ∨ q = q_115 + 1); omega))
                have hv_160 : va_at g.1 kCl (cI g q_115 21 ((s_fl ((fun _ => nI 0)) 0 (k_do f98 ((f 12) + sh) ((f 13) + sh) ((f 14) + sh) lk) 21))) H_151 := hQ_153 0 _ rfl
                have hv_161 : va_at g.1 kCl (cI g (q_115 + 1) 21 ((s_fl ((fun _ => nI 0)) 0 (k_di f98 ((f 15) - sh)) 21))) H_151 := hQ_153 1 _ rfl
                refine lv_aload_n hx hb dX4_addIdealCard_120 rfl (lvG hl rfl) ?_
                refine lv_aload hx hb dX4_addIdealCard_121 (lvG hl rfl) ?_
                refine k_callMI0 (k_goV (rest := []) hC hK (c_X4_addCard l g x a M f98 (s_recn n) cn (by rw [ef98, s_rec_lo _ _ (by omega), hc]) (by omega) q_100 q_115 (q_115 + 1) (nI 1) sp (k_p2 (k_do f98 ((f 12) + sh) ((f 13) + sh) ((f 14) + sh) lk) (k_di f98 ((f 15) - sh)))) L_X4_X4_addCard (⟨⟨Nat.le_of_ble_eq_true rfl, Nat.le_of_ble_eq_true rfl⟩, ⟨rfl, rfl⟩, ⟨Nat.le_of_ble_eq_true rfl, Nat.le_of_ble_eq_true rfl⟩⟩) (k_recv hK hM_158 0 rfl rfl) (⟨XW.close (ws := cTr x :: ws98) (d' := d98) (r' := r98) hXW98 hM_158 (va_Dre hDM98 rfl) hR98 hF_159.2 (fun j h1 h2 => rfl) (hB98.kept (fun q h c => hF_159.2 q h (fun z => c (Or.inl z)))), p2_C hv_157 hv_160 hv_161, (fun c => by have := hMU _ c; omega), (fun c => by have := hMU _ c; omega), (fun c => by have := hMU _ c; omega)⟩) rfl hl.1 rfl (Nat.le_of_ble_eq_true rfl) dX4_addIdealCard_123) hS_154 (fun _ h => Or.inl (Or.inl h)) (fun r_ H_162 locs_163 hQ_164 hz_ hk_166 hS_165 => ?_)
                obtain ⟨hv_r, hX_r⟩ := hQ_164
                refine W.widen (k := 3) (n := 46) (by omega) (by omega) ?_
                exact k_iretM hC hr hlk hS_165 dX4_addIdealCard_126 (by first | exact ai_t (j := 0) ⟨zc4, zc11, zc21, zc33⟩ (by rw [e_zj, z0]) zc62 (by omega) (by rw [ev_zj, z0]) ef98 hv_r hX_r | exact ai_t (j := 1) ⟨zc4, zc11, zc21, zc33⟩ (by rw [e_zj, z0]) zc62 (by omega) (by rw [ev_zj, z0]) ef98 hv_r hX_r)
              · refine lv_ldc (v := (-2000000003 : Int32)) hx hb hown (hts _ w_279) dX4_addIdealCard_80 ?_
                refine W.widen (k := 3) (n := 46) (by omega) (by omega) ?_
                exact k_iretM hC hr hlk hS_87 dX4_addIdealCard_82 (by first | exact ai_c (j := 0) ⟨zc4, zc11, zc21, zc33⟩ (by rw [e_zj, z0]) zc62 (by omega) hXW_91 | exact ai_c (j := 1) ⟨zc4, zc11, zc21, zc33⟩ (by rw [e_zj, z0]) zc62 (by omega) hXW_91)
            · refine lv_ldc (v := (-2000000002 : Int32)) hx hb hown (hts _ w_267) dX4_addIdealCard_65 ?_
              refine W.widen (k := 3) (n := 46) (by omega) (by omega) ?_
              exact k_iretM hC hr hlk hS_87 dX4_addIdealCard_67 (by first | exact ai_x (j := 0) ⟨zc4, zc11, zc21, zc33⟩ (by rw [e_zj, z0]) zc62 hXW_91 | exact ai_x (j := 1) ⟨zc4, zc11, zc21, zc33⟩ (by rw [e_zj, z0]) zc62 hXW_91)
        · refine lv_ldc (v := (-2000000001 : Int32)) hx hb hown (hts _ w_204) dX4_addIdealCard_36 ?_
          refine W.widen (k := 3) (n := 46) (by omega) (by omega) ?_
          exact k_iretM hC hr hlk hS dX4_addIdealCard_38 (by first | exact ai_i (fun q => zc4 q.1) hXW | exact ai_i (fun q => zc11 q.2.1) hXW | exact ai_i (fun q => zc21 q.2.2.1) hXW | exact ai_i (fun q => zc33 q.2.2.2) hXW)
