/-- a card that isn't scratch -/
def XC (g : kG) (x : Nat → Nat) (qc qo qi : Nat) (e0 sp : Int32) (p0 : Nat → Int32) (H : Heap) : Prop := va_P g.1 kCl (wC g qc qo qi e0 sp p0) H ∧ ¬ SC x qc ∧ ¬ SC x qo ∧ ¬ SC x qi
theorem XC.kept {g : kG} {x : Nat → Nat} {qc qo qi : Nat} {e0 sp : Int32} {p0 : Nat → Int32} {H H1 : Heap} (h : XC g x qc qo qi e0 sp p0 H) (hk : ∀ q : Nat, q < H.size → ¬ SC x q → H1[q]? = H[q]?) : XC g x qc qo qi e0 sp p0 H1 := by
  obtain ⟨e2, e3, e4, e5⟩ := h
  refine ⟨e2.kept (fun k z hz => hk z.1 (e2 k z hz).lt ?_), e3, e4, e5⟩
  match k, hz with
  | 0, hz => cases hz; exact e3
  | 1, hz => cases hz; exact e4
  | 2, hz => cases hz; exact e5
  | k + 3, hz => simp at hz
theorem XC.at {g : kG} {x : Nat → Nat} {qc qo qi : Nat} {e0 sp : Int32} {p0 : Nat → Int32} {H H1 : Heap} {locs : List Loc} (h : XC g x qc qo qi e0 sp p0 H) (hS : va_S (SC x) H H1 locs) : XC g x qc qo qi e0 sp p0 H1 := h.kept hS.2.1
def XS (g : kG) (x : Nat → Nat) (H : Heap) : Prop := ∃ tr te fo so, XT g x tr te fo so H
def k_fo (f p : Nat → Int32) : Nat → Int32 := fun k => if k = 0 then nI (s_ad f p) else if k = 1 then nI (s_cu f p) else if k = 2 then nI (s_re f p) else nI (s_cp f p)
def k_la (d : Int32) (ev : Nat) : Int32 := if ev = 3 then -d else d
theorem re_eq (f p : Nat → Int32) : k_re f p (s_cu f p) = s_re f p := rfl
theorem cp_eq (f p : Nat → Int32) : k_cp f (fun k => p (21 + k)) = s_cp f p := rfl
theorem L_X4_X4_findAdmission : LnkV RX4 320 yX4_findAdmission cX4_findAdmission 4 (some .int) 1 := ⟨w_361, w_363, w_8, w_25, w_364, ⟨by decide +kernel, by decide +kernel⟩, by decide +kernel⟩
theorem L_X4_X4_findCutOff : LnkV RX4 323 yX4_findCutOff cX4_findCutOff 5 (some .int) 2 := ⟨w_371, w_373, w_9, w_25, w_374, ⟨by decide +kernel, by decide +kernel⟩, by decide +kernel⟩
theorem L_X4_X4_findRelease : LnkV RX4 326 yX4_findRelease cX4_findRelease 5 (some .int) 2 := ⟨w_375, w_377, w_10, w_25, w_378, ⟨by decide +kernel, by decide +kernel⟩, by decide +kernel⟩
theorem L_X4_X4_findCompression : LnkV RX4 329 yX4_findCompression cX4_findCompression 4 (some .int) 1 := ⟨w_383, w_385, w_12, w_25, w_386, ⟨by decide +kernel, by decide +kernel⟩, by decide +kernel⟩
set_option maxHeartbeats 4000000 in
set_option maxRecDepth 100000 in
theorem c_X4_findEvents (l : Launch) (g : kG) (x : Nat → Nat) (a : Nat → Nat) (n : Nat) (f : Nat → Int32) (cn : Nat) (rf : Nat → Option Nat) (tr : Nat → Int32) (te : Nat → Int32) (fo : Nat → Int32) (so : Nat → Int32) (qc : Nat) (qo : Nat) (qi : Nat) (e0 : Int32) (sp : Int32) (p0 : Nat → Int32) (hx0 : s_ad f p0 ≤ 20) : MV l yX4_findEvents cX4_findEvents 2 none (rr 3 67) [.ref (x 0), .ref qc] ((fun H => XB g x a n f cn rf H ∧ XT g x tr te fo so H ∧ XC g x qc qo qi e0 sp p0 H)) g 0 0 (SC x) (fun H1 => XT g x tr te (k_fo f p0) so H1) := by
  refine kOf (by decide) (Nat.le_of_ble_eq_true rfl) (fun p e s m below meth c ls hC hr hlk hin hK hP hl => ?_)
  have hx := hC.1
  have hb := hC.2.1
  have hml := hC.2.2.1
  have hown := hC.2.2.2.1
  have hts := hC.2.2.2.2
  have hl : lv_has ls 2 [(0, .ref (x 0)), (1, .ref qc)] := hl
  obtain ⟨hB, ⟨hT, hD⟩, hCd⟩ := hP
  have hS : va_S (SC x) s.heap s.heap [] := va_S.rf
  have hcu2 : s_cu f p0 ≤ 20 := (s_co_in p0 (s_bd f p0) 20 (s_ad f p0)).2 hx0
  refine lv_aload_n hx hb dX4_findEvents_0 rfl (lvG hl rfl) ?_
  refine va_get (D := g.1) (ci := 4) (v := .ref (x 6)) (C := RX4) (T := TX4) (N := 7) hx hb hts i_X4 hown hK.1 hB.1 0 rfl rfl 5 (by decide) (hts _ w_180) (fun _ h9 => h9) rfl dX4_findEvents_1 ?_
  refine lv_aload_n hx hb dX4_findEvents_4 rfl (lvG hl rfl) ?_
  refine lv_aload_n hx hb dX4_findEvents_5 rfl (lvG hl rfl) ?_
  refine va_get (D := g.1) (ci := 0) (v := .ref qo) (C := RX0) (T := TX0) (N := 4) hx hb hts i_X0 hown hK.1 hCd.1 0 rfl rfl 2 (by decide) (hts _ w_49) (fun _ h9 => h9) rfl dX4_findEvents_6 ?_
  refine k_callPI (k_goV (rest := [.ref (x 6)]) hC hK (c_X4_findAdmission l g x a n f cn rf qo p0 (hx0)) L_X4_X4_findAdmission (⟨⟨Nat.le_of_ble_eq_true rfl, Nat.le_of_ble_eq_true rfl⟩, ⟨rfl, rfl⟩, ⟨Nat.le_of_ble_eq_true rfl, Nat.le_of_ble_eq_true rfl⟩⟩) (k_recv hK hB.1 0 rfl rfl) (⟨hB, (hCd.1.sub [1] rfl)⟩) rfl hl.1 rfl (Nat.le_of_ble_eq_true rfl) dX4_findEvents_9) ?_
  refine va_put (D := g.1) (ci := 2) (v := .int (nI (s_ad f p0))) (ty := .int) (C := RX2) (T := TX2) (N := 4) hx hb hts i_X2 tyX2 tyX2_ok nmX2 hown hK.1 hT hD hS 3 rfl rfl 0 (by decide) (hts _ w_69) (fun _ h9 => h9) rfl (by decide +kernel) rfl rfl (Nat.le_of_ble_eq_true rfl) dX4_findEvents_12 (fun H_1 locs_2 hP_3 hD_4 hS_5 => ?_)
  have hP_3 : va_P g.1 kCl [cI g (x 3) 21 tr, cI g (x 4) 21 ((fun k => tr (21 + k))), (x 5, .inr (2, [.int (te 0), .int (te 1), .int (te 2), .int (te 3)])), (x 6, .inr (2, [.int (nI (s_ad f p0)), .int (fo 1), .int (fo 2), .int (fo 3)])), cI g (x 7) 10 so] H_1 := hP_3
  have hD_4 : va_D (SC x) [cI g (x 3) 21 tr, cI g (x 4) 21 ((fun k => tr (21 + k))), (x 5, .inr (2, [.int (te 0), .int (te 1), .int (te 2), .int (te 3)])), (x 6, .inr (2, [.int (nI (s_ad f p0)), .int (fo 1), .int (fo 2), .int (fo 3)])), cI g (x 7) 10 so] := hD_4
  have hB_6 : XB g x a n f cn rf H_1 := hB.at hS_5
  have hCd_7 : XC g x qc qo qi e0 sp p0 H_1 := hCd.at hS_5
  refine lv_aload_n hx hb dX4_findEvents_15 rfl (lvG hl rfl) ?_
  refine va_get (D := g.1) (ci := 4) (v := .ref (x 6)) (C := RX4) (T := TX4) (N := 7) hx hb hts i_X4 hown hK.1 hB_6.1 0 rfl rfl 5 (by decide) (hts _ w_180) (fun _ h9 => h9) rfl dX4_findEvents_16 ?_
  refine lv_aload_n hx hb dX4_findEvents_19 rfl (lvG hl rfl) ?_
  refine lv_aload_n hx hb dX4_findEvents_20 rfl (lvG hl rfl) ?_
  refine va_get (D := g.1) (ci := 0) (v := .ref qo) (C := RX0) (T := TX0) (N := 4) hx hb hts i_X0 hown hK.1 hCd_7.1 0 rfl rfl 2 (by decide) (hts _ w_49) (fun _ h9 => h9) rfl dX4_findEvents_21 ?_
  refine lv_aload_n hx hb dX4_findEvents_24 rfl (lvG hl rfl) ?_
  refine va_get (D := g.1) (ci := 4) (v := .ref (x 6)) (C := RX4) (T := TX4) (N := 7) hx hb hts i_X4 hown hK.1 hB_6.1 0 rfl rfl 5 (by decide) (hts _ w_180) (fun _ h9 => h9) rfl dX4_findEvents_25 ?_
  refine va_get (D := g.1) (ci := 2) (v := .int (nI (s_ad f p0))) (C := RX2) (T := TX2) (N := 4) hx hb hts i_X2 hown hK.1 hP_3 3 rfl rfl 0 (by decide) (hts _ w_69) (fun _ h9 => h9) rfl dX4_findEvents_28 ?_
  refine k_callPI (k_goV (rest := [.ref (x 6)]) hC hK (c_X4_findCutOff l g x a n f cn rf qo p0 (s_ad f p0) (hx0)) L_X4_X4_findCutOff (⟨⟨Nat.le_of_ble_eq_true rfl, Nat.le_of_ble_eq_true rfl⟩, ⟨rfl, rfl⟩, ⟨Nat.le_of_ble_eq_true rfl, Nat.le_of_ble_eq_true rfl⟩⟩) (k_recv hK hB_6.1 0 rfl rfl) (⟨hB_6, (hCd_7.1.sub [1] rfl)⟩) rfl hl.1 rfl (Nat.le_of_ble_eq_true rfl) dX4_findEvents_31) ?_
  refine va_put (D := g.1) (ci := 2) (v := .int (nI (s_co p0 (s_bd f p0) 20 (s_ad f p0)))) (ty := .int) (C := RX2) (T := TX2) (N := 4) hx hb hts i_X2 tyX2 tyX2_ok nmX2 hown hK.1 hP_3 hD_4 hS_5 3 rfl rfl 1 (by decide) (hts _ w_71) (fun _ h9 => h9) rfl (by decide +kernel) rfl rfl (Nat.le_of_ble_eq_true rfl) dX4_findEvents_34 (fun H_8 locs_9 hP_10 hD_11 hS_12 => ?_)
  have hP_10 : va_P g.1 kCl [cI g (x 3) 21 tr, cI g (x 4) 21 ((fun k => tr (21 + k))), (x 5, .inr (2, [.int (te 0), .int (te 1), .int (te 2), .int (te 3)])), (x 6, .inr (2, [.int (nI (s_ad f p0)), .int (nI (s_co p0 (s_bd f p0) 20 (s_ad f p0))), .int (fo 2), .int (fo 3)])), cI g (x 7) 10 so] H_8 := hP_10
  have hD_11 : va_D (SC x) [cI g (x 3) 21 tr, cI g (x 4) 21 ((fun k => tr (21 + k))), (x 5, .inr (2, [.int (te 0), .int (te 1), .int (te 2), .int (te 3)])), (x 6, .inr (2, [.int (nI (s_ad f p0)), .int (nI (s_co p0 (s_bd f p0) 20 (s_ad f p0))), .int (fo 2), .int (fo 3)])), cI g (x 7) 10 so] := hD_11
  have hB_13 : XB g x a n f cn rf H_8 := hB.at hS_12
  have hCd_14 : XC g x qc qo qi e0 sp p0 H_8 := hCd.at hS_12
  refine lv_aload_n hx hb dX4_findEvents_37 rfl (lvG hl rfl) ?_
  refine va_get (D := g.1) (ci := 4) (v := .ref (x 6)) (C := RX4) (T := TX4) (N := 7) hx hb hts i_X4 hown hK.1 hB_13.1 0 rfl rfl 5 (by decide) (hts _ w_180) (fun _ h9 => h9) rfl dX4_findEvents_38 ?_
  refine lv_aload_n hx hb dX4_findEvents_41 rfl (lvG hl rfl) ?_
  refine lv_aload_n hx hb dX4_findEvents_42 rfl (lvG hl rfl) ?_
  refine lv_aload_n hx hb dX4_findEvents_43 rfl (lvG hl rfl) ?_
  refine va_get (D := g.1) (ci := 4) (v := .ref (x 6)) (C := RX4) (T := TX4) (N := 7) hx hb hts i_X4 hown hK.1 hB_13.1 0 rfl rfl 5 (by decide) (hts _ w_180) (fun _ h9 => h9) rfl dX4_findEvents_44 ?_
  refine va_get (D := g.1) (ci := 2) (v := .int (nI (s_co p0 (s_bd f p0) 20 (s_ad f p0)))) (C := RX2) (T := TX2) (N := 4) hx hb hts i_X2 hown hK.1 hP_10 3 rfl rfl 1 (by decide) (hts _ w_71) (fun _ h9 => h9) rfl dX4_findEvents_47 ?_
  refine k_callPI (k_goV (rest := [.ref (x 6)]) hC hK (c_X4_findRelease l g x a n f cn rf qc qo qi e0 sp p0 (s_cu f p0) (hcu2)) L_X4_X4_findRelease (⟨⟨Nat.le_of_ble_eq_true rfl, Nat.le_of_ble_eq_true rfl⟩, ⟨rfl, rfl⟩, ⟨Nat.le_of_ble_eq_true rfl, Nat.le_of_ble_eq_true rfl⟩⟩) (k_recv hK hB_13.1 0 rfl rfl) (⟨hB_13, hCd_14.1⟩) rfl hl.1 rfl (Nat.le_of_ble_eq_true rfl) dX4_findEvents_50) ?_
  refine va_put (D := g.1) (ci := 2) (v := .int (nI (k_re f p0 (s_cu f p0)))) (ty := .int) (C := RX2) (T := TX2) (N := 4) hx hb hts i_X2 tyX2 tyX2_ok nmX2 hown hK.1 hP_10 hD_11 hS_12 3 rfl rfl 2 (by decide) (hts _ w_73) (fun _ h9 => h9) rfl (by decide +kernel) rfl rfl (Nat.le_of_ble_eq_true rfl) dX4_findEvents_53 (fun H_15 locs_16 hP_17 hD_18 hS_19 => ?_)
  have hP_17 : va_P g.1 kCl [cI g (x 3) 21 tr, cI g (x 4) 21 ((fun k => tr (21 + k))), (x 5, .inr (2, [.int (te 0), .int (te 1), .int (te 2), .int (te 3)])), (x 6, .inr (2, [.int (nI (s_ad f p0)), .int (nI (s_co p0 (s_bd f p0) 20 (s_ad f p0))), .int (nI (k_re f p0 (s_cu f p0))), .int (fo 3)])), cI g (x 7) 10 so] H_15 := hP_17
  have hD_18 : va_D (SC x) [cI g (x 3) 21 tr, cI g (x 4) 21 ((fun k => tr (21 + k))), (x 5, .inr (2, [.int (te 0), .int (te 1), .int (te 2), .int (te 3)])), (x 6, .inr (2, [.int (nI (s_ad f p0)), .int (nI (s_co p0 (s_bd f p0) 20 (s_ad f p0))), .int (nI (k_re f p0 (s_cu f p0))), .int (fo 3)])), cI g (x 7) 10 so] := hD_18
  have hB_20 : XB g x a n f cn rf H_15 := hB.at hS_19
  have hCd_21 : XC g x qc qo qi e0 sp p0 H_15 := hCd.at hS_19
  refine lv_aload_n hx hb dX4_findEvents_56 rfl (lvG hl rfl) ?_
  refine va_get (D := g.1) (ci := 4) (v := .ref (x 6)) (C := RX4) (T := TX4) (N := 7) hx hb hts i_X4 hown hK.1 hB_20.1 0 rfl rfl 5 (by decide) (hts _ w_180) (fun _ h9 => h9) rfl dX4_findEvents_57 ?_
  refine lv_aload_n hx hb dX4_findEvents_60 rfl (lvG hl rfl) ?_
  refine lv_aload_n hx hb dX4_findEvents_61 rfl (lvG hl rfl) ?_
  refine va_get (D := g.1) (ci := 0) (v := .ref qi) (C := RX0) (T := TX0) (N := 4) hx hb hts i_X0 hown hK.1 hCd_21.1 0 rfl rfl 3 (by decide) (hts _ w_51) (fun _ h9 => h9) rfl dX4_findEvents_62 ?_
  refine k_callPI (k_goV (rest := [.ref (x 6)]) hC hK (c_X4_findCompression l g x a n f cn rf qi ((fun k => p0 (21 + k)))) L_X4_X4_findCompression (⟨⟨Nat.le_of_ble_eq_true rfl, Nat.le_of_ble_eq_true rfl⟩, ⟨rfl, rfl⟩, ⟨Nat.le_of_ble_eq_true rfl, Nat.le_of_ble_eq_true rfl⟩⟩) (k_recv hK hB_20.1 0 rfl rfl) (⟨hB_20, (hCd_21.1.sub [2] rfl)⟩) rfl hl.1 rfl (Nat.le_of_ble_eq_true rfl) dX4_findEvents_65) ?_
  refine va_put (D := g.1) (ci := 2) (v := .int (nI (k_cp f ((fun k => p0 (21 + k)))))) (ty := .int) (C := RX2) (T := TX2) (N := 4) hx hb hts i_X2 tyX2 tyX2_ok nmX2 hown hK.1 hP_17 hD_18 hS_19 3 rfl rfl 3 (by decide) (hts _ w_75) (fun _ h9 => h9) rfl (by decide +kernel) rfl rfl (Nat.le_of_ble_eq_true rfl) dX4_findEvents_68 (fun H_22 locs_23 hP_24 hD_25 hS_26 => ?_)
  have hP_24 : va_P g.1 kCl [cI g (x 3) 21 tr, cI g (x 4) 21 ((fun k => tr (21 + k))), (x 5, .inr (2, [.int (te 0), .int (te 1), .int (te 2), .int (te 3)])), (x 6, .inr (2, [.int (nI (s_ad f p0)), .int (nI (s_co p0 (s_bd f p0) 20 (s_ad f p0))), .int (nI (k_re f p0 (s_cu f p0))), .int (nI (k_cp f ((fun k => p0 (21 + k)))))])), cI g (x 7) 10 so] H_22 := hP_24
  have hD_25 : va_D (SC x) [cI g (x 3) 21 tr, cI g (x 4) 21 ((fun k => tr (21 + k))), (x 5, .inr (2, [.int (te 0), .int (te 1), .int (te 2), .int (te 3)])), (x 6, .inr (2, [.int (nI (s_ad f p0)), .int (nI (s_co p0 (s_bd f p0) 20 (s_ad f p0))), .int (nI (k_re f p0 (s_cu f p0))), .int (nI (k_cp f ((fun k => p0 (21 + k)))))])), cI g (x 7) 10 so] := hD_25
  have hB_27 : XB g x a n f cn rf H_22 := hB.at hS_26
  have hCd_28 : XC g x qc qo qi e0 sp p0 H_22 := hCd.at hS_26
  exact k_vretM hC hr hlk hS_26 dX4_findEvents_71 (⟨hP_24, hD_25⟩)
