section WO3
variable {p : Program} {l : Launch} {e : Env} {R : Room} {s : State} {m : MethodId} {args : Array Value} {below : List Frame} {meth : Method} {c : Code} {H : Heap} {locs : List Loc} {cells slots : Nat} {Q : State → Prop}
variable {cc : ByteArray} {pc nL : Nat} {ls : Array Slot} {own : String} {g : kG} {ws : va_W} {A : Nat → Prop} {H0 : Heap}
theorem k_astO {rest : List Value} {k a nn : Nat} {h : Nat → Int32} {v : Int32} (hC : CallFix p m c cc nL s args lw_good own) (hK : KK g s) (hP : va_P g.1 kCl ws H) (hD : va_D A ws) (hS : va_S A H0 H locs) (pos : Nat) (ha : ws[pos]? = some (a, .inl (g.2.1, nn, .inl h))) (hk : k < nn) (h2 : nn < 2 ^ 31) (hdg : decode cc pc = .ok (.iastore, 1))
    (kk : ∀ (H1 : Heap) (locs1 : List Loc), va_P g.1 kCl (ws.set pos (a, .inl (g.2.1, nn, .inl (upd h k v)))) H1 → va_D A (ws.set pos (a, .inl (g.2.1, nn, .inl (upd h k v)))) → va_S A H0 H1 locs1 → H1.size = H.size → (∀ q : Nat, q ≠ a → H1[q]? = H[q]?) → W p l e R s m args below meth c H1 locs1 cells slots Q (F0 m (pc + 1) ls rest)) : W p l e R s m args below meth c H locs cells slots Q (F0 m pc ls (.int v :: .int (nI k) :: .ref a :: rest)) := by
  have hz := nI_clamp (n := k) (by omega)
  have hin := vp_in_nI hk h2
  refine W.iast hC.1 hC.2.1 (hP pos _ ha) ((hK.1.2 0 (g.2.1, .int) rfl).1 nn (fun j => .int (h j))) (fun q => by cases q) (by show ¬ (nI k < 0 ∨ (arrV _ _ _).slots.size ≤ _); rw [arrV_size]; exact hin) rfl rfl hdg fun H1 e z oq => ?_
  rw [hz] at e ⊢
  refine kk H1 _ (hP.set hD ha ?_ oq) (hD.set ha) (hS.put z oq (hD.2 pos _ ha)) z oq
  show H1[a]? = some (vp_cell _ _)
  rw [e, vp_cell_i, vp_cell_i, arrV_store]
  congr 2
  funext q
  by_cases hq : q = k
  · subst hq
    simp [updV, upd]
  · simp [updV, upd, hq]
end WO3
section DRF
variable {g : kG} {x a : Nat → Nat} {M : Nat → Prop} {f f1 F F' d d' : Nat → Int32} {r r' hs : Nat → Option Nat} {n : Nat} {H : Heap} {en sp : Int32}
theorem BOK.draft (h : BOK g x M F d r H) (h0 : F' 16 = nI 0 ∨ F' 16 = nI 1) (h1 : F' 16 = nI 1 → ∀ k, k < 42 → d' k = F' (19 + k) - nI 1) (e : ∀ j, 61 ≤ j → j < 502 → F j = F' j) : BOK g x M F' d' r H := by
  obtain ⟨-, -, h2, h3⟩ := h
  refine ⟨h0, h1, h2, fun i hi hi2 => ?_⟩
  rw [← e 61 (by omega) (by omega)] at hi
  obtain ⟨q, qo, qi, e1, e2, e3, e4, e5⟩ := h3 i hi hi2
  rw [← e (62 + 44 * i) (by omega) (by omega), ← e (62 + 44 * i + 1) (by omega) (by omega)]
  exact ⟨q, qo, qi, e1, PC_eq e2 (fun k hk => e _ (by omega) (by omega)), e3, e4, e5⟩
theorem bc_t (h : s_okB en sp) (ef : f1 = s_rec f n) {v : Int32} (ev : f1 16 = v) (hX : XW g x a M (s_bcU f1 en sp) (s_recn n) H) : v = s_bcR f n en sp ∧ XW g x a M (s_bcF f n en sp) (s_bcN n en sp) H := by
  subst ef
  unfold s_bcR s_bcF s_bcN
  rw [if_pos h, if_pos h, if_pos h]
  exact ⟨ev.symm, hX⟩
theorem bc_f (h : ¬ s_okB en sp) (hX : XW g x a M f n H) : cINV = s_bcR f n en sp ∧ XW g x a M (s_bcF f n en sp) (s_bcN n en sp) H := by
  unfold s_bcR s_bcF s_bcN
  rw [if_neg h, if_neg h, if_neg h]
  exact ⟨rfl, hX⟩
theorem bcU_hi {k : Nat} (hk : 61 ≤ k) : s_bcU f en sp k = f k := by
  unfold s_bcU
  rw [s_fl_out _ _ _ _ _ (by omega), upd_ne _ _ _ _ (by omega), upd_ne _ _ _ _ (by omega), upd_ne _ _ _ _ (by omega)]
theorem bcU_lo {k : Nat} (hk : k < 16) : s_bcU f en sp k = f k := by
  unfold s_bcU
  rw [s_fl_out _ _ _ _ _ (by omega), upd_ne _ _ _ _ (by omega), upd_ne _ _ _ _ (by omega), upd_ne _ _ _ _ (by omega)]
theorem bcU_16 : s_bcU f en sp 16 = nI 1 := by
  unfold s_bcU
  rw [s_fl_out _ _ _ _ _ (by omega), upd_ne _ _ _ _ (by omega), upd_ne _ _ _ _ (by omega), upd_at]
theorem bcU_17 : s_bcU f en sp 17 = en := by
  unfold s_bcU
  rw [s_fl_out _ _ _ _ _ (by omega), upd_ne _ _ _ _ (by omega), upd_at]
theorem bcU_18 : s_bcU f en sp 18 = sp := by
  unfold s_bcU
  rw [s_fl_out _ _ _ _ _ (by omega), upd_at]
theorem bcU_pt {k : Nat} (hk : k < 42) : s_bcU f en sp (19 + k) = nI 0 := by
  unfold s_bcU
  rw [s_fl_in _ _ _ _ _ hk]
/-- a state's block, its draft's three numbers apart -/
theorem wS_dr {v0 v1 v2 : Int32} {z : va_W} (e : ∀ j, j < 16 → F' j = F j) (e61 : F' 61 = F 61) (h0 : F' 16 = v0) (h1 : F' 17 = v1) (h2 : F' 18 = v2) : (cM x (a 0) n :: cH g (x 1) hs :: cS a F :: cR g (a 6) r :: cE (a 1) (F 8) (F 9) (F 10) (F 11) :: cE (a 2) (F 12) (F 13) (F 14) (F 15) :: cDv a v0 v1 v2 :: cI g (a 4) 21 d :: cI g (a 5) 21 (fun k => d (21 + k)) :: z) = wN g x a n F' d r hs ++ z := by
  subst h0 h1 h2
  rw [show cS a F = cS a F' by rw [cS, cS, e 0 (by omega), e 1 (by omega), e 2 (by omega), e 3 (by omega), e 4 (by omega), e 5 (by omega), e 6 (by omega), e 7 (by omega), e61], ← e 8 (by omega), ← e 9 (by omega), ← e 10 (by omega), ← e 11 (by omega), ← e 12 (by omega), ← e 13 (by omega), ← e 14 (by omega), ← e 15 (by omega)]
  rfl
end DRF
theorem ct_eq {h p : Nat → Int32} : ∀ m, (∀ k, k < m → h k = p k - nI 1) → (∀ k, k < m → 0 ≤ (p k).toInt) → k_ct h m = s_cnt p m
  | 0, _, _ => rfl
  | m + 1, e, q => by
    have ih := ct_eq m (fun k hk => e k (by omega)) (fun k hk => q k (by omega))
    have hz : (nI 0).toInt = 0 := rfl
    have q1 := q m (by omega)
    have e1 := e m (by omega)
    unfold k_ct s_cnt
    rw [ih]
    by_cases c : p m = nI 0
    · rw [if_pos (by rw [e1, c]; decide), if_pos (by rw [c]; exact Int32.le_refl _)]
    · rw [if_neg (fun z => c ?_), if_neg (fun z => c ?_)]
      · have z1 := Int32.le_iff_toInt_le.mp z
        rw [hz] at z1
        exact Int32.toInt_inj.mp (by rw [hz]; omega)
      · rw [e1] at z
        have z2 : p m = (-1 : Int32) + nI 1 := by rw [← z, Int32.sub_add_cancel]
        rw [z2]; decide
set_option maxHeartbeats 4000000 in
set_option maxRecDepth 100000 in
theorem c_X1_pointsOf (l : Launch) (g : kG) (a : Nat → Nat) (v0 : Int32) (v1 : Int32) (v2 : Int32) (st : Int32) : PR l yX1_pointsOf cX1_pointsOf 2 (some (.array .int)) (rr 0 0) [.ref (a 3), .int (st)] ((va_P g.1 kCl [cDv a v0 v1 v2])) g (if st = nI 0 then a 4 else a 5) := by
  refine kOf (by decide) (Nat.le_of_ble_eq_true rfl) (fun p e s m below meth c ls hC hr hlk hin hK hP hl => ?_)
  have hx := hC.1
  have hb := hC.2.1
  have hml := hC.2.2.1
  have hown := hC.2.2.2.1
  have hts := hC.2.2.2.2
  have hl : lv_has ls 2 [(0, .ref (a 3)), (1, .int (st))] := hl
  refine lv_iload_n hx hb dX1_pointsOf_0 rfl (lvG hl rfl) ?_
  refine z_if_ne (tgt := 11) hC dX1_pointsOf_1 (by decide) (fun zc1 => ?_) (fun zc1 => ?_)
  · refine lv_aload_n hx hb dX1_pointsOf_11 rfl (lvG hl rfl) ?_
    refine va_get (D := g.1) (ci := 1) (v := .ref (a 5)) (C := RX1) (T := TX1) (N := 5) hx hb hts i_X1 hown hK.1 hP 0 rfl rfl 4 (by decide) (hts _ w_107) (fun _ h9 => h9) rfl dX1_pointsOf_12 ?_
    exact k_aret hC hr (Or.inr ⟨_, rfl⟩) hlk dX1_pointsOf_15 (by first | (rw [if_pos zc1]; done) | (rw [if_neg zc1]; done))
  · refine lv_aload_n hx hb dX1_pointsOf_4 rfl (lvG hl rfl) ?_
    refine va_get (D := g.1) (ci := 1) (v := .ref (a 4)) (C := RX1) (T := TX1) (N := 5) hx hb hts i_X1 hown hK.1 hP 0 rfl rfl 3 (by decide) (hts _ w_105) (fun _ h9 => h9) rfl dX1_pointsOf_5 ?_
    refine lv_goto (tgt := 15) hx hb dX1_pointsOf_8 (by decide) ?_
    exact k_aret hC hr (Or.inr ⟨_, rfl⟩) hlk dX1_pointsOf_15 (by first | (rw [if_pos zc1]; done) | (rw [if_neg zc1]; done))
theorem L_X4_X4_isSpeed : LnkS RX4 113 yX4_isSpeed cX4_isSpeed 1 (some .boolean) 1 := ⟨w_250, w_251, w_25, w_252, ⟨by decide +kernel, by decide +kernel⟩, by decide +kernel⟩
theorem L_X4_X1_begin : LnkV RX4 126 yX1_begin cX1_begin 4 none 2 := ⟨w_253, w_254, w_255, w_29, w_256, ⟨by decide +kernel, by decide +kernel⟩, by decide +kernel⟩
set_option maxHeartbeats 4000000 in
set_option maxRecDepth 100000 in
theorem c_X4_beginCard (l : Launch) (g : kG) (x : Nat → Nat) (a : Nat → Nat) (M : Nat → Prop) (f : Nat → Int32) (n : Nat) (en : Int32) (sp : Int32) : MI l yX4_beginCard cX4_beginCard 4 (some .int) (rr 4 103) [.ref (x 0), .int (en), .int (sp)] ((XW g x a M f n)) g 0 0 (M) (fun r H1 => r = s_bcR f n en sp ∧ XW g x a M (s_bcF f n en sp) (s_bcN n en sp) H1) := by
  refine kOf (by decide) (Nat.le_of_ble_eq_true rfl) (fun p e s m below meth c ls hC hr hlk hin hK hP hl => ?_)
  have hx := hC.1
  have hb := hC.2.1
  have hml := hC.2.2.1
  have hown := hC.2.2.2.1
  have hts := hC.2.2.2.2
  have hl : lv_has ls 4 [(0, .ref (x 0)), (1, .int (en)), (2, .int (sp))] := hl
  have hXW := hP
  obtain ⟨hn4, hm, hx0, d, r, hs, w0, hM, hD, hR, hB⟩ := hXW
  obtain ⟨ws, ews⟩ := hR.trial
  subst ews
  have hXW : XW g x a M f n s.heap := XW.mk hn4 hm hx0 hM hD hR hB
  have hF : KF M s.heap s.heap := KF.rf
  have hS : va_S (M) s.heap s.heap [] := va_S.rf
  refine lv_iload_n hx hb dX4_beginCard_0 rfl (lvG hl rfl) ?_
  refine k_callPI (k_goS (rest := []) hC hK (c_X4_isEnd l g en) L_X4_X4_isEnd (⟨⟨Nat.le_of_ble_eq_true rfl, Nat.le_of_ble_eq_true rfl⟩, ⟨rfl, rfl⟩, ⟨Nat.le_of_ble_eq_true rfl, Nat.le_of_ble_eq_true rfl⟩⟩) (trivial) rfl hl.1 rfl (Nat.le_of_ble_eq_true rfl) dX4_beginCard_1) ?_
  refine b_ifeq (tgt := 14) hC dX4_beginCard_4 (by decide) (fun zc4 => ?_) (fun zc4 => ?_)
  · refine lv_ldc (v := (-2000000001 : Int32)) hx hb hown (hts _ w_204) dX4_beginCard_14 ?_
    exact k_iretM hC hr hlk hS dX4_beginCard_16 (by first | exact bc_f (fun q => zc4 q.1) hXW | exact bc_f (fun q => zc11 q.2) hXW)
  · refine lv_iload_n hx hb dX4_beginCard_7 rfl (lvG hl rfl) ?_
    refine k_callPI (k_goS (rest := []) hC hK (c_X4_isSpeed l g sp) L_X4_X4_isSpeed (⟨⟨Nat.le_of_ble_eq_true rfl, Nat.le_of_ble_eq_true rfl⟩, ⟨rfl, rfl⟩, ⟨Nat.le_of_ble_eq_true rfl, Nat.le_of_ble_eq_true rfl⟩⟩) (trivial) rfl hl.1 rfl (Nat.le_of_ble_eq_true rfl) dX4_beginCard_8) ?_
    refine b_ifne (tgt := 17) hC dX4_beginCard_11 (by decide) (fun zc11 => ?_) (fun zc11 => ?_)
    · refine lv_aload_n hx hb dX4_beginCard_17 rfl (lvG hl rfl) ?_
      refine k_callMV0 (k_goV (rest := []) hC hK (c_X4_recordState l g x a M f n) L_X4_X4_recordState (⟨⟨Nat.le_of_ble_eq_true rfl, Nat.le_of_ble_eq_true rfl⟩, ⟨rfl, rfl⟩, ⟨Nat.le_of_ble_eq_true rfl, Nat.le_of_ble_eq_true rfl⟩⟩) (k_recv hK hM 0 rfl rfl) (hXW) rfl hl.1 rfl (Nat.le_of_ble_eq_true rfl) dX4_beginCard_18) hS (fun _ h => h) (fun H_1 locs_2 hQ_3 hz_ hk_5 hS_4 => ?_)
      obtain ⟨f6, ef6⟩ : ∃ z, z = s_rec f n := ⟨_, rfl⟩
      rw [← ef6] at hQ_3
      obtain ⟨hn6, hm6, hx06, d6, r6, hs6, w06, hM6, hD6, hR6, hB6⟩ := hQ_3
      obtain ⟨ws6, ews6⟩ := hR6.trial
      subst ews6
      have hXW6 := XW.mk hn6 hm6 hx06 hM6 hD6 hR6 hB6
      have hF6 : KF M H_1 H_1 := KF.rf
      rcases (hB6).1 with zb | zb
      · refine lv_aload_n hx hb dX4_beginCard_21 rfl (lvG hl rfl) ?_
        refine va_get (D := g.1) (ci := 4) (v := .ref (a 0)) (C := RX4) (T := TX4) (N := 7) hx hb hts i_X4 hown hK.1 hM6 0 rfl rfl 0 (by decide) (hts _ w_175) (fun _ h9 => h9) rfl dX4_beginCard_22 ?_
        refine va_get (D := g.1) (ci := 3) (v := .ref (a 3)) (C := RX3) (T := TX3) (N := 13) hx hb hts i_X3 hown hK.1 hM6 2 rfl rfl 10 (by decide) (hts _ w_142) (fun _ h9 => h9) rfl dX4_beginCard_25 ?_
        refine va_get (D := g.1) (ci := 1) (v := .int (f6 16)) (C := RX1) (T := TX1) (N := 5) hx hb hts i_X1 hown hK.1 hM6 6 rfl rfl 0 (by decide) (hts _ w_100) (fun _ h9 => h9) rfl dX4_beginCard_28 ?_
        rw [zb]
        refine n_if_eq (tgt := 38) hC dX4_beginCard_31 (by decide) (by decide) (fun _ => ?_) (fun c => absurd c (by decide))
        refine lv_iconst (v := nI 0) hx hb dX4_beginCard_38 (by decide) ?_
        refine lv_istore_n (lv' := [(3, .int (nI 0)), (0, .ref (x 0)), (1, .int (en)), (2, .int (sp))]) hx hb dX4_beginCard_39 rfl hl (by decide) rfl (fun ls hl => ?_)
        refine lv_aload_n hx hb dX4_beginCard_40 rfl (lvG hl rfl) ?_
        refine va_get (D := g.1) (ci := 4) (v := .ref (a 0)) (C := RX4) (T := TX4) (N := 7) hx hb hts i_X4 hown hK.1 hM6 0 rfl rfl 0 (by decide) (hts _ w_175) (fun _ h9 => h9) rfl dX4_beginCard_41 ?_
        refine va_get (D := g.1) (ci := 3) (v := .ref (a 3)) (C := RX3) (T := TX3) (N := 13) hx hb hts i_X3 hown hK.1 hM6 2 rfl rfl 10 (by decide) (hts _ w_142) (fun _ h9 => h9) rfl dX4_beginCard_44 ?_
        refine lv_iload_n hx hb dX4_beginCard_47 rfl (lvG hl rfl) ?_
        refine lv_iload_n hx hb dX4_beginCard_48 rfl (lvG hl rfl) ?_
        refine k_callMV0 (k_goV (rest := []) hC hK (c_X1_begin l g a (f6 16) (f6 17) (f6 18) d6 ((fun k => d6 (21 + k))) ((va_D.sub hD6 [6, 7, 8] (by decide) rfl).weaken (fun _ _ _ _ => trivial)) en sp) L_X4_X1_begin (⟨⟨Nat.le_of_ble_eq_true rfl, Nat.le_of_ble_eq_true rfl⟩, ⟨rfl, rfl⟩, ⟨Nat.le_of_ble_eq_true rfl, Nat.le_of_ble_eq_true rfl⟩⟩) (k_recv hK hM6 6 rfl rfl) ((va_P.sub hM6 [6, 7, 8] rfl)) rfl hl.1 rfl (Nat.le_of_ble_eq_true rfl) dX4_beginCard_49) hS_4 (aof_in hD6 [6, 7, 8] rfl) (fun H_7 locs_8 hQ_9 hz_ hk_11 hS_10 => ?_)
        have hM_12 : va_P g.1 kCl ([(x 0, .inr (4, [.ref (a 0), .ref (x 1), .int (nI (s_recn n)), .ref (x 2), .ref (x 5), .ref (x 6), .ref (x 7)])), (x 1, .inl (g.2.2.2, 4, .inr (.inr (.inr (.inr hs6))))), (a 0, .inr (3, [.int (f6 0), .int (f6 1), .int (f6 2), .int (f6 3), .int (f6 4), .int (f6 5), .int (f6 6), .int (f6 7), .ref (a 1), .ref (a 2), .ref (a 3), .ref (a 6), .int (f6 61)])), (a 6, .inl (g.2.2.1, 10, .inr (.inr (.inr (.inr r6))))), (a 1, .inr (2, [.int (f6 8), .int (f6 9), .int (f6 10), .int (f6 11)])), (a 2, .inr (2, [.int (f6 12), .int (f6 13), .int (f6 14), .int (f6 15)])), (a 3, .inr (1, [.int (nI 1), .int (en), .int (sp), .ref (a 4), .ref (a 5)])), cI g (a 4) 21 ((fun _ => (-1 : Int32))), cI g (a 5) 21 ((fun _ => (-1 : Int32))), (x 2, .inr (0, [.int (nI 0), .int (nI 0), .ref (x 3), .ref (x 4)]))] ++ ws6) H_7 := va_mid (u := [(x 0, .inr (4, [.ref (a 0), .ref (x 1), .int (nI (s_recn n)), .ref (x 2), .ref (x 5), .ref (x 6), .ref (x 7)])), (x 1, .inl (g.2.2.2, 4, .inr (.inr (.inr (.inr hs6))))), (a 0, .inr (3, [.int (f6 0), .int (f6 1), .int (f6 2), .int (f6 3), .int (f6 4), .int (f6 5), .int (f6 6), .int (f6 7), .ref (a 1), .ref (a 2), .ref (a 3), .ref (a 6), .int (f6 61)])), (a 6, .inl (g.2.2.1, 10, .inr (.inr (.inr (.inr r6))))), (a 1, .inr (2, [.int (f6 8), .int (f6 9), .int (f6 10), .int (f6 11)])), (a 2, .inr (2, [.int (f6 12), .int (f6 13), .int (f6 14), .int (f6 15)]))]) (v := [(a 3, .inr (1, [.int (f6 16), .int (f6 17), .int (f6 18), .ref (a 4), .ref (a 5)])), cI g (a 4) 21 d6, cI g (a 5) 21 ((fun k => d6 (21 + k)))]) (v' := [(a 3, .inr (1, [.int (nI 1), .int (en), .int (sp), .ref (a 4), .ref (a 5)])), cI g (a 4) 21 ((fun _ => (-1 : Int32))), cI g (a 5) 21 ((fun _ => (-1 : Int32)))]) (w := ([(x 2, .inr (0, [.int (nI 0), .int (nI 0), .ref (x 3), .ref (x 4)]))] ++ ws6)) hM6 hD6 (aof_id) hk_11 hQ_9
        have hD_13 : va_D (M) ([(x 0, .inr (4, [.ref (a 0), .ref (x 1), .int (nI (s_recn n)), .ref (x 2), .ref (x 5), .ref (x 6), .ref (x 7)])), (x 1, .inl (g.2.2.2, 4, .inr (.inr (.inr (.inr hs6))))), (a 0, .inr (3, [.int (f6 0), .int (f6 1), .int (f6 2), .int (f6 3), .int (f6 4), .int (f6 5), .int (f6 6), .int (f6 7), .ref (a 1), .ref (a 2), .ref (a 3), .ref (a 6), .int (f6 61)])), (a 6, .inl (g.2.2.1, 10, .inr (.inr (.inr (.inr r6))))), (a 1, .inr (2, [.int (f6 8), .int (f6 9), .int (f6 10), .int (f6 11)])), (a 2, .inr (2, [.int (f6 12), .int (f6 13), .int (f6 14), .int (f6 15)])), (a 3, .inr (1, [.int (nI 1), .int (en), .int (sp), .ref (a 4), .ref (a 5)])), cI g (a 4) 21 ((fun _ => (-1 : Int32))), cI g (a 5) 21 ((fun _ => (-1 : Int32))), (x 2, .inr (0, [.int (nI 0), .int (nI 0), .ref (x 3), .ref (x 4)]))] ++ ws6) := va_Dmid (u := [(x 0, .inr (4, [.ref (a 0), .ref (x 1), .int (nI (s_recn n)), .ref (x 2), .ref (x 5), .ref (x 6), .ref (x 7)])), (x 1, .inl (g.2.2.2, 4, .inr (.inr (.inr (.inr hs6))))), (a 0, .inr (3, [.int (f6 0), .int (f6 1), .int (f6 2), .int (f6 3), .int (f6 4), .int (f6 5), .int (f6 6), .int (f6 7), .ref (a 1), .ref (a 2), .ref (a 3), .ref (a 6), .int (f6 61)])), (a 6, .inl (g.2.2.1, 10, .inr (.inr (.inr (.inr r6))))), (a 1, .inr (2, [.int (f6 8), .int (f6 9), .int (f6 10), .int (f6 11)])), (a 2, .inr (2, [.int (f6 12), .int (f6 13), .int (f6 14), .int (f6 15)]))]) (v := [(a 3, .inr (1, [.int (f6 16), .int (f6 17), .int (f6 18), .ref (a 4), .ref (a 5)])), cI g (a 4) 21 d6, cI g (a 5) 21 ((fun k => d6 (21 + k)))]) (v' := [(a 3, .inr (1, [.int (nI 1), .int (en), .int (sp), .ref (a 4), .ref (a 5)])), cI g (a 4) 21 ((fun _ => (-1 : Int32))), cI g (a 5) 21 ((fun _ => (-1 : Int32)))]) (w := ([(x 2, .inr (0, [.int (nI 0), .int (nI 0), .ref (x 3), .ref (x 4)]))] ++ ws6)) hD6 rfl
        have hF_14 := KF.call hF6 hz_ hk_11 (aof_in hD6 [6, 7, 8] rfl)
        refine lv_iload_n hx hb dX4_beginCard_52 rfl (lvG hl rfl) ?_
        exact k_iretM hC hr hlk hS_10 dX4_beginCard_53 (bc_t ⟨zc4, zc11⟩ ef6 zb (XW.close (f' := s_bcU f6 en sp) (ws := cTr x :: ws6) (d' := fun _ => (-1 : Int32)) (r' := r6) hXW6 (by rw [← wS_dr (F := f6) (fun j hj => bcU_lo hj) (bcU_hi (by decide)) bcU_16 bcU_17 bcU_18]; exact hM_12) (by rw [← wS_dr (F := f6) (fun j hj => bcU_lo hj) (bcU_hi (by decide)) bcU_16 bcU_17 bcU_18]; exact hD_13) hR6 hF_14.2 (fun j h1 h2 => bcU_hi (by omega)) ((hB6.kept (fun q h c => hF_14.2 q h (fun z => c (Or.inl z)))).draft (Or.inr bcU_16) (fun _ k hk => by rw [bcU_pt hk]; decide) (fun j h1 h2 => (bcU_hi h1).symm))))
      · refine lv_aload_n hx hb dX4_beginCard_21 rfl (lvG hl rfl) ?_
        refine va_get (D := g.1) (ci := 4) (v := .ref (a 0)) (C := RX4) (T := TX4) (N := 7) hx hb hts i_X4 hown hK.1 hM6 0 rfl rfl 0 (by decide) (hts _ w_175) (fun _ h9 => h9) rfl dX4_beginCard_22 ?_
        refine va_get (D := g.1) (ci := 3) (v := .ref (a 3)) (C := RX3) (T := TX3) (N := 13) hx hb hts i_X3 hown hK.1 hM6 2 rfl rfl 10 (by decide) (hts _ w_142) (fun _ h9 => h9) rfl dX4_beginCard_25 ?_
        refine va_get (D := g.1) (ci := 1) (v := .int (f6 16)) (C := RX1) (T := TX1) (N := 5) hx hb hts i_X1 hown hK.1 hM6 6 rfl rfl 0 (by decide) (hts _ w_100) (fun _ h9 => h9) rfl dX4_beginCard_28 ?_
        rw [zb]
        refine n_if_eq (tgt := 38) hC dX4_beginCard_31 (by decide) (by decide) (fun c => absurd c (by decide)) (fun _ => ?_)
        refine lv_iconst (v := nI 1) hx hb dX4_beginCard_34 (by decide) ?_
        refine lv_goto (tgt := 39) hx hb dX4_beginCard_35 (by decide) ?_
        refine lv_istore_n (lv' := [(3, .int (nI 1)), (0, .ref (x 0)), (1, .int (en)), (2, .int (sp))]) hx hb dX4_beginCard_39 rfl hl (by decide) rfl (fun ls hl => ?_)
        refine lv_aload_n hx hb dX4_beginCard_40 rfl (lvG hl rfl) ?_
        refine va_get (D := g.1) (ci := 4) (v := .ref (a 0)) (C := RX4) (T := TX4) (N := 7) hx hb hts i_X4 hown hK.1 hM6 0 rfl rfl 0 (by decide) (hts _ w_175) (fun _ h9 => h9) rfl dX4_beginCard_41 ?_
        refine va_get (D := g.1) (ci := 3) (v := .ref (a 3)) (C := RX3) (T := TX3) (N := 13) hx hb hts i_X3 hown hK.1 hM6 2 rfl rfl 10 (by decide) (hts _ w_142) (fun _ h9 => h9) rfl dX4_beginCard_44 ?_
        refine lv_iload_n hx hb dX4_beginCard_47 rfl (lvG hl rfl) ?_
        refine lv_iload_n hx hb dX4_beginCard_48 rfl (lvG hl rfl) ?_
        refine k_callMV0 (k_goV (rest := []) hC hK (c_X1_begin l g a (f6 16) (f6 17) (f6 18) d6 ((fun k => d6 (21 + k))) ((va_D.sub hD6 [6, 7, 8] (by decide) rfl).weaken (fun _ _ _ _ => trivial)) en sp) L_X4_X1_begin (⟨⟨Nat.le_of_ble_eq_true rfl, Nat.le_of_ble_eq_true rfl⟩, ⟨rfl, rfl⟩, ⟨Nat.le_of_ble_eq_true rfl, Nat.le_of_ble_eq_true rfl⟩⟩) (k_recv hK hM6 6 rfl rfl) ((va_P.sub hM6 [6, 7, 8] rfl)) rfl hl.1 rfl (Nat.le_of_ble_eq_true rfl) dX4_beginCard_49) hS_4 (aof_in hD6 [6, 7, 8] rfl) (fun H_15 locs_16 hQ_17 hz_ hk_19 hS_18 => ?_)
        have hM_20 : va_P g.1 kCl ([(x 0, .inr (4, [.ref (a 0), .ref (x 1), .int (nI (s_recn n)), .ref (x 2), .ref (x 5), .ref (x 6), .ref (x 7)])), (x 1, .inl (g.2.2.2, 4, .inr (.inr (.inr (.inr hs6))))), (a 0, .inr (3, [.int (f6 0), .int (f6 1), .int (f6 2), .int (f6 3), .int (f6 4), .int (f6 5), .int (f6 6), .int (f6 7), .ref (a 1), .ref (a 2), .ref (a 3), .ref (a 6), .int (f6 61)])), (a 6, .inl (g.2.2.1, 10, .inr (.inr (.inr (.inr r6))))), (a 1, .inr (2, [.int (f6 8), .int (f6 9), .int (f6 10), .int (f6 11)])), (a 2, .inr (2, [.int (f6 12), .int (f6 13), .int (f6 14), .int (f6 15)])), (a 3, .inr (1, [.int (nI 1), .int (en), .int (sp), .ref (a 4), .ref (a 5)])), cI g (a 4) 21 ((fun _ => (-1 : Int32))), cI g (a 5) 21 ((fun _ => (-1 : Int32))), (x 2, .inr (0, [.int (nI 0), .int (nI 0), .ref (x 3), .ref (x 4)]))] ++ ws6) H_15 := va_mid (u := [(x 0, .inr (4, [.ref (a 0), .ref (x 1), .int (nI (s_recn n)), .ref (x 2), .ref (x 5), .ref (x 6), .ref (x 7)])), (x 1, .inl (g.2.2.2, 4, .inr (.inr (.inr (.inr hs6))))), (a 0, .inr (3, [.int (f6 0), .int (f6 1), .int (f6 2), .int (f6 3), .int (f6 4), .int (f6 5), .int (f6 6), .int (f6 7), .ref (a 1), .ref (a 2), .ref (a 3), .ref (a 6), .int (f6 61)])), (a 6, .inl (g.2.2.1, 10, .inr (.inr (.inr (.inr r6))))), (a 1, .inr (2, [.int (f6 8), .int (f6 9), .int (f6 10), .int (f6 11)])), (a 2, .inr (2, [.int (f6 12), .int (f6 13), .int (f6 14), .int (f6 15)]))]) (v := [(a 3, .inr (1, [.int (f6 16), .int (f6 17), .int (f6 18), .ref (a 4), .ref (a 5)])), cI g (a 4) 21 d6, cI g (a 5) 21 ((fun k => d6 (21 + k)))]) (v' := [(a 3, .inr (1, [.int (nI 1), .int (en), .int (sp), .ref (a 4), .ref (a 5)])), cI g (a 4) 21 ((fun _ => (-1 : Int32))), cI g (a 5) 21 ((fun _ => (-1 : Int32)))]) (w := ([(x 2, .inr (0, [.int (nI 0), .int (nI 0), .ref (x 3), .ref (x 4)]))] ++ ws6)) hM6 hD6 (aof_id) hk_19 hQ_17
        have hD_21 : va_D (M) ([(x 0, .inr (4, [.ref (a 0), .ref (x 1), .int (nI (s_recn n)), .ref (x 2), .ref (x 5), .ref (x 6), .ref (x 7)])), (x 1, .inl (g.2.2.2, 4, .inr (.inr (.inr (.inr hs6))))), (a 0, .inr (3, [.int (f6 0), .int (f6 1), .int (f6 2), .int (f6 3), .int (f6 4), .int (f6 5), .int (f6 6), .int (f6 7), .ref (a 1), .ref (a 2), .ref (a 3), .ref (a 6), .int (f6 61)])), (a 6, .inl (g.2.2.1, 10, .inr (.inr (.inr (.inr r6))))), (a 1, .inr (2, [.int (f6 8), .int (f6 9), .int (f6 10), .int (f6 11)])), (a 2, .inr (2, [.int (f6 12), .int (f6 13), .int (f6 14), .int (f6 15)])), (a 3, .inr (1, [.int (nI 1), .int (en), .int (sp), .ref (a 4), .ref (a 5)])), cI g (a 4) 21 ((fun _ => (-1 : Int32))), cI g (a 5) 21 ((fun _ => (-1 : Int32))), (x 2, .inr (0, [.int (nI 0), .int (nI 0), .ref (x 3), .ref (x 4)]))] ++ ws6) := va_Dmid (u := [(x 0, .inr (4, [.ref (a 0), .ref (x 1), .int (nI (s_recn n)), .ref (x 2), .ref (x 5), .ref (x 6), .ref (x 7)])), (x 1, .inl (g.2.2.2, 4, .inr (.inr (.inr (.inr hs6))))), (a 0, .inr (3, [.int (f6 0), .int (f6 1), .int (f6 2), .int (f6 3), .int (f6 4), .int (f6 5), .int (f6 6), .int (f6 7), .ref (a 1), .ref (a 2), .ref (a 3), .ref (a 6), .int (f6 61)])), (a 6, .inl (g.2.2.1, 10, .inr (.inr (.inr (.inr r6))))), (a 1, .inr (2, [.int (f6 8), .int (f6 9), .int (f6 10), .int (f6 11)])), (a 2, .inr (2, [.int (f6 12), .int (f6 13), .int (f6 14), .int (f6 15)]))]) (v := [(a 3, .inr (1, [.int (f6 16), .int (f6 17), .int (f6 18), .ref (a 4), .ref (a 5)])), cI g (a 4) 21 d6, cI g (a 5) 21 ((fun k => d6 (21 + k)))]) (v' := [(a 3, .inr (1, [.int (nI 1), .int (en), .int (sp), .ref (a 4), .ref (a 5)])), cI g (a 4) 21 ((fun _ => (-1 : Int32))), cI g (a 5) 21 ((fun _ => (-1 : Int32)))]) (w := ([(x 2, .inr (0, [.int (nI 0), .int (nI 0), .ref (x 3), .ref (x 4)]))] ++ ws6)) hD6 rfl
        have hF_22 := KF.call hF6 hz_ hk_19 (aof_in hD6 [6, 7, 8] rfl)
        refine lv_iload_n hx hb dX4_beginCard_52 rfl (lvG hl rfl) ?_
        exact k_iretM hC hr hlk hS_18 dX4_beginCard_53 (bc_t ⟨zc4, zc11⟩ ef6 zb (XW.close (f' := s_bcU f6 en sp) (ws := cTr x :: ws6) (d' := fun _ => (-1 : Int32)) (r' := r6) hXW6 (by rw [← wS_dr (F := f6) (fun j hj => bcU_lo hj) (bcU_hi (by decide)) bcU_16 bcU_17 bcU_18]; exact hM_20) (by rw [← wS_dr (F := f6) (fun j hj => bcU_lo hj) (bcU_hi (by decide)) bcU_16 bcU_17 bcU_18]; exact hD_21) hR6 hF_22.2 (fun j h1 h2 => bcU_hi (by omega)) ((hB6.kept (fun q h c => hF_22.2 q h (fun z => c (Or.inl z)))).draft (Or.inr bcU_16) (fun _ k hk => by rw [bcU_pt hk]; decide) (fun j h1 h2 => (bcU_hi h1).symm))))
    · refine lv_ldc (v := (-2000000001 : Int32)) hx hb hown (hts _ w_204) dX4_beginCard_14 ?_
      exact k_iretM hC hr hlk hS dX4_beginCard_16 (by first | exact bc_f (fun q => zc4 q.1) hXW | exact bc_f (fun q => zc11 q.2) hXW)
