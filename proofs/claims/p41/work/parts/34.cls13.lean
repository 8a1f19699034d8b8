theorem XK.pre4 {g : kG} {w1 w2 w3 w4 : Nat × va_E} {A A' : Nat → Prop} {H : Heap} (h : XK g [w1, w2, w3, w4] A H) (hA : ∀ q, A' q → A q) : XK g [w1, w2, w3] A' H := ⟨fun k q hq => by
  match k, hq with
  | 0, hq => exact h.1 0 q hq
  | 1, hq => exact h.1 1 q hq
  | 2, hq => exact h.1 2 q hq
  | k + 3, hq => simp at hq, fun k q hq hn => by
  match k, hq with
  | 0, hq => exact h.2 0 q hq (hA _ hn)
  | 1, hq => exact h.2 1 q hq (hA _ hn)
  | 2, hq => exact h.2 2 q hq (hA _ hn)
  | k + 3, hq => simp at hq⟩
theorem D2 {A : Nat → Prop} {y z : Nat} {e0 e1 : va_E} (h : A y) (h2 : A z) (hn : y ≠ z) : va_D A [(y, e0), (z, e1)] := ⟨fun i j p q hi hj hpq => by
  match i, j, hi, hj with
  | 0, 0, _, _ => rfl
  | 0, 1, hi, hj => cases hi; cases hj; exact absurd hpq hn
  | 1, 0, hi, hj => cases hi; cases hj; exact absurd hpq.symm hn
  | 1, 1, _, _ => rfl
  | i + 2, _, hi, _ => simp at hi
  | 0, j + 2, _, hj => simp at hj
  | 1, j + 2, _, hj => simp at hj, fun k q hk => by
  match k, hk with
  | 0, hk => cases hk; exact h
  | 1, hk => cases hk; exact h2
  | k + 2, hk => simp at hk⟩
theorem P2a {g : kG} {y z : Nat} {e0 e1 d1 : va_E} {H H1 : Heap} (hq : va_P g.1 kCl [(y, e1)] H1) (h : va_P g.1 kCl [(y, e0), (z, d1)] H) (hn : y ≠ z) (hk : ∀ q : Nat, q < H.size → ¬ q = y → H1[q]? = H[q]?) : va_P g.1 kCl [(y, e1), (z, d1)] H1 := va_P.app hq ((h.sub [1] rfl).kept (fun k q hq2 => by
  match k, hq2 with
  | 0, hq2 => cases hq2; exact hk z ((h.sub [1] rfl) 0 _ rfl).lt (fun c => hn c.symm)
  | k + 1, hq2 => simp at hq2))
theorem P2b {g : kG} {y z : Nat} {e0 d0 d1 : va_E} {H H1 : Heap} (hq : va_P g.1 kCl [(z, d1)] H1) (h : va_P g.1 kCl [(y, e0), (z, d0)] H) (hn : y ≠ z) (hk : ∀ q : Nat, q < H.size → ¬ q = z → H1[q]? = H[q]?) : va_P g.1 kCl [(y, e0), (z, d1)] H1 := va_P.app ((h.sub [0] rfl).kept (fun k q hq2 => by
  match k, hq2 with
  | 0, hq2 => cases hq2; exact hk y ((h.sub [0] rfl) 0 _ rfl).lt hn
  | k + 1, hq2 => simp at hq2)) hq
theorem L_X4_X4_drawIdealOutward : LnkV RX4 303 yX4_drawIdealOutward cX4_drawIdealOutward 10 none 3 := ⟨w_313, w_315, w_4, w_25, w_316, ⟨by decide +kernel, by decide +kernel⟩, by decide +kernel⟩
theorem L_X4_X4_drawIdealReturn : LnkV RX4 307 yX4_drawIdealReturn cX4_drawIdealReturn 7 none 2 := ⟨w_321, w_323, w_5, w_25, w_324, ⟨by decide +kernel, by decide +kernel⟩, by decide +kernel⟩
set_option maxHeartbeats 4000000 in
set_option maxRecDepth 100000 in
theorem c_X4_drawIdealCard (l : Launch) (g : kG) (x : Nat → Nat) (a : Nat → Nat) (n : Nat) (f : Nat → Int32) (ye : Nat) (va : Int32) (vc : Int32) (vr : Int32) (vm : Int32) (qc : Nat) (qo : Nat) (qi : Nat) (e0 : Int32) (sp : Int32) (h : Nat → Int32) (h2 : Nat → Int32) (lk : Int32) (hqq : qo ≠ qi) : MV l yX4_drawIdealCard cX4_drawIdealCard 4 none (rr 3 72) [.ref (x 0), .ref qc, .ref ye, .int (lk)] ((fun H => XK g [cM x (a 0) n, cS a f, cE ye va vc vr vm, (qc, .inr (0, [.int e0, .int sp, .ref qo, .ref qi]))] (fun q => q = qo ∨ q = qi) H ∧ va_P g.1 kCl [cI g qo 21 h, cI g qi 21 h2] H)) g 0 0 (fun q => q = qo ∨ q = qi) (fun H1 => va_P g.1 kCl [cI g qo 21 (s_fl h 0 (k_do f va vc vr lk) 21), cI g qi 21 (s_fl h2 0 (k_di f vm) 21)] H1) := by
  refine kOf (by decide) (Nat.le_of_ble_eq_true rfl) (fun p e s m below meth c ls hC hr hlk hin hK hP hl => ?_)
  have hx := hC.1
  have hb := hC.2.1
  have hml := hC.2.2.1
  have hown := hC.2.2.2.1
  have hts := hC.2.2.2.2
  have hl : lv_has ls 4 [(0, .ref (x 0)), (1, .ref qc), (2, .ref ye), (3, .int (lk))] := hl
  obtain ⟨hX, hM⟩ := hP
  have hD : va_D (fun q => q = qo ∨ q = qi) [cI g qo 21 h, cI g qi 21 h2] := D2 (Or.inl rfl) (Or.inr rfl) hqq
  have hS : va_S (fun q => q = qo ∨ q = qi) s.heap s.heap [] := va_S.rf
  refine lv_aload_n hx hb dX4_drawIdealCard_0 rfl (lvG hl rfl) ?_
  refine lv_aload_n hx hb dX4_drawIdealCard_1 rfl (lvG hl rfl) ?_
  refine va_get (D := g.1) (ci := 0) (v := .ref qo) (C := RX0) (T := TX0) (N := 4) hx hb hts i_X0 hown hK.1 hX.1 3 rfl rfl 2 (by decide) (hts _ w_49) (fun _ h9 => h9) rfl dX4_drawIdealCard_2 ?_
  refine lv_aload_n hx hb dX4_drawIdealCard_5 rfl (lvG hl rfl) ?_
  refine lv_iload_n hx hb dX4_drawIdealCard_6 rfl (lvG hl rfl) ?_
  refine k_callMV0 (k_goV (rest := []) hC hK (c_X4_drawIdealOutward l g x a n f ye va vc vr vm qo h lk) L_X4_X4_drawIdealOutward (⟨⟨Nat.le_of_ble_eq_true rfl, Nat.le_of_ble_eq_true rfl⟩, ⟨rfl, rfl⟩, ⟨Nat.le_of_ble_eq_true rfl, Nat.le_of_ble_eq_true rfl⟩⟩) (k_recv hK hX.1 0 rfl rfl) (⟨XK.pre4 hX (fun q c => Or.inl c), hM.sub [0] rfl⟩) rfl hl.1 rfl (Nat.le_of_ble_eq_true rfl) dX4_drawIdealCard_7) hS (fun q c => Or.inl c) (fun H_1 locs_2 hQ_3 hz_ hk_5 hS_4 => ?_)
  have hM_6 : va_P g.1 kCl [cI g qo 21 (s_fl h 0 (k_do f va vc vr lk) 21), cI g qi 21 h2] H_1 := P2a hQ_3 hM hqq hk_5
  have hD_7 : va_D (fun q => q = qo ∨ q = qi) [cI g qo 21 (s_fl h 0 (k_do f va vc vr lk) 21), cI g qi 21 h2] := D2 (Or.inl rfl) (Or.inr rfl) hqq
  have hX_8 := hX.at hS_4
  refine lv_aload_n hx hb dX4_drawIdealCard_10 rfl (lvG hl rfl) ?_
  refine lv_aload_n hx hb dX4_drawIdealCard_11 rfl (lvG hl rfl) ?_
  refine va_get (D := g.1) (ci := 0) (v := .ref qi) (C := RX0) (T := TX0) (N := 4) hx hb hts i_X0 hown hK.1 hX_8.1 3 rfl rfl 3 (by decide) (hts _ w_51) (fun _ h9 => h9) rfl dX4_drawIdealCard_12 ?_
  refine lv_aload_n hx hb dX4_drawIdealCard_15 rfl (lvG hl rfl) ?_
  refine k_callMV0 (k_goV (rest := []) hC hK (c_X4_drawIdealReturn l g x a n f ye va vc vr vm qi h2) L_X4_X4_drawIdealReturn (⟨⟨Nat.le_of_ble_eq_true rfl, Nat.le_of_ble_eq_true rfl⟩, ⟨rfl, rfl⟩, ⟨Nat.le_of_ble_eq_true rfl, Nat.le_of_ble_eq_true rfl⟩⟩) (k_recv hK hX_8.1 0 rfl rfl) (⟨XK.pre4 hX_8 (fun q c => Or.inr c), hM_6.sub [1] rfl⟩) rfl hl.1 rfl (Nat.le_of_ble_eq_true rfl) dX4_drawIdealCard_16) hS_4 (fun q c => Or.inr c) (fun H_9 locs_10 hQ_11 hz_ hk_13 hS_12 => ?_)
  have hM_14 : va_P g.1 kCl [cI g qo 21 (s_fl h 0 (k_do f va vc vr lk) 21), cI g qi 21 (s_fl h2 0 (k_di f vm) 21)] H_9 := P2b hQ_11 hM_6 hqq hk_13
  have hD_15 : va_D (fun q => q = qo ∨ q = qi) [cI g qo 21 (s_fl h 0 (k_do f va vc vr lk) 21), cI g qi 21 (s_fl h2 0 (k_di f vm) 21)] := D2 (Or.inl rfl) (Or.inr rfl) hqq
  have hX_16 := hX.at hS_12
  exact k_vretM hC hr hlk hS_12 dX4_drawIdealCard_19 (hM_14)
