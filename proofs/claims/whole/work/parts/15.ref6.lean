def RQ (g : kG) (o q : Nat) (f : Nat → Int32) (n : Nat) (H : Heap) : Prop := ∃ F : Nat → Int32, (∀ j, j < 2510 → F j = f j) ∧ RP g o q F n H
theorem RP.q {g : kG} {o q n : Nat} {f : Nat → Int32} {H : Heap} (h : RP g o q f n H) : RQ g o q f n H := ⟨f, fun _ _ => rfl, h⟩
theorem r_ok {vr : Int32} (h1 : nI 2 ≤ vr) (h2 : vr ≤ nI 20) : ¬ (nI 21 - vr).toInt64 = 0 := by
  obtain ⟨j, hj, rfl⟩ := in_nat (x := vr) (n := 20) (by decide) ⟨Int32.le_trans (by decide) h1, h2⟩
  rw [pk_sub (by omega)]
  exact l_ne0 (by omega) (by omega)
theorem s_vol_eq {f F : Nat → Int32} (h : F 0 = f 0) (hv : s_vol f) : s_vol F := by unfold s_vol; rw [h]; exact hv
abbrev s_okI (en sp sh lk : Int32) : Prop := (nI 0 ≤ en ∧ en ≤ nI 1) ∧ (nI 1 ≤ sp ∧ sp ≤ nI 600) ∧ ((-3 : Int32) ≤ sh ∧ sh ≤ nI 3) ∧ ((-20 : Int32) ≤ lk ∧ lk ≤ nI 20)
abbrev s_iv (f : Nat → Int32) (j ev : Nat) : Int32 := f (8 + 4 * j + ev)
abbrev s_exI (f : Nat → Int32) (j : Nat) (sh : Int32) : Prop := (nI 0 ≤ s_iv f j 0 + sh ∧ s_iv f j 0 + sh ≤ nI 8) ∧ (nI 1 ≤ s_iv f j 1 + sh ∧ s_iv f j 1 + sh ≤ nI 19) ∧ (nI 2 ≤ s_iv f j 2 + sh ∧ s_iv f j 2 + sh ≤ nI 20) ∧ (nI 0 ≤ s_iv f j 3 - sh ∧ s_iv f j 3 - sh ≤ nI 19)
def s_aiU (f : Nat → Int32) (n cn j : Nat) (en sp sh lk : Int32) : Nat → Int32 := s_acU (s_drU (s_rec f n) (s_iv f j 0 + sh) (s_iv f j 1 + sh) (s_iv f j 2 + sh) (s_iv f j 3 - sh) lk) cn en sp
abbrev s_aiP (f : Nat → Int32) (cn : Nat) (en sp sh lk : Int32) : Prop := s_okI en sp sh lk ∧ s_exI f en.toNatClampNeg sh ∧ ¬ cn = 10
def s_aiR (f : Nat → Int32) (cn : Nat) (en sp sh lk : Int32) : Int32 := if s_okI en sp sh lk then (if s_exI f en.toNatClampNeg sh then (if cn = 10 then cCAP else nI cn) else cILL) else cINV
def s_aiF (f : Nat → Int32) (n cn : Nat) (en sp sh lk : Int32) : Nat → Int32 := if s_aiP f cn en sp sh lk then s_aiU f n cn en.toNatClampNeg en sp sh lk else f
def s_aiN (f : Nat → Int32) (n cn : Nat) (en sp sh lk : Int32) : Nat := if s_aiP f cn en sp sh lk then s_recn n else n
theorem L_X5_X5_valveOf : LnkV RX5 65 yX5_valveOf cX5_valveOf 3 (some .int) 2 := ⟨w_743, w_745, w_30, w_60, w_746, ⟨by decide +kernel, by decide +kernel⟩, by decide +kernel⟩
theorem L_X5_X5_draw : LnkV RX5 68 yX5_draw cX5_draw 11 none 5 := ⟨w_747, w_749, w_31, w_60, w_750, ⟨by decide +kernel, by decide +kernel⟩, by decide +kernel⟩
set_option maxHeartbeats 4000000 in
set_option maxRecDepth 100000 in
theorem c_X5_addIdealCard (l : Launch) (g : kG) (o : Nat) (q : Nat) (f : Nat → Int32) (n : Nat) (en : Int32) (sp : Int32) (sh : Int32) (lk : Int32) (cn : Nat) (hc : f 61 = nI cn) (hcn : cn ≤ 10) (hv : s_vol f) : MI l yX5_addIdealCard cX5_addIdealCard 9 (some .int) (rr 2 53) [.ref o, .int (en), .int (sp), .int (sh), .int (lk)] ((RP g o q f n)) g 0 0 (RA o q) (fun r H1 => r = s_aiR f cn en sp sh lk ∧ RP g o q (s_aiF f n cn en sp sh lk) (s_aiN f n cn en sp sh lk) H1) := by
  refine kOf (by decide) (Nat.le_of_ble_eq_true rfl) (fun p e s m below meth c ls hC hr hlk hin hK hP hl => ?_)
  have hx := hC.1
  have hb := hC.2.1
  have hml := hC.2.2.1
  have hown := hC.2.2.2.1
  have hts := hC.2.2.2.2
  have hl : lv_has ls 9 [(0, .ref o), (1, .int (en)), (2, .int (sp)), (3, .int (sh)), (4, .int (lk))] := hl
  have hS : va_S (RA o q) s.heap s.heap [] := va_S.rf
  refine lv_iload_n hx hb dX5_addIdealCard_0 rfl (lvG hl rfl) ?_
  refine k_callPI (k_goS (rest := []) hC hK (c_X5_isEnd l g en) L_X5_X5_isEnd (⟨⟨Nat.le_of_ble_eq_true rfl, Nat.le_of_ble_eq_true rfl⟩, ⟨rfl, rfl⟩, ⟨Nat.le_of_ble_eq_true rfl, Nat.le_of_ble_eq_true rfl⟩⟩) (trivial) rfl hl.1 rfl (Nat.le_of_ble_eq_true rfl) dX5_addIdealCard_1) ?_
  refine b_ifeq (tgt := 40) hC dX5_addIdealCard_4 (by decide) (fun zc4 => ?_) (fun zc4 => ?_)
  · refine lv_ldc (v := (-2000000001 : Int32)) hx hb hown (hts _ w_669) dX5_addIdealCard_40 ?_
    exact k_iretM hC hr hlk hS dX5_addIdealCard_42 (by have hno : ¬ s_okI en sp sh lk := (by grind); unfold s_aiR s_aiF s_aiN; rw [if_neg hno, if_neg (fun q => hno q.1), if_neg (fun q => hno q.1)]; exact ⟨rfl, hP⟩)
  · refine lv_iload_n hx hb dX5_addIdealCard_7 rfl (lvG hl rfl) ?_
    refine lv_iconst (v := nI 1) hx hb dX5_addIdealCard_8 (by decide) ?_
    refine lv_sipush (v := nI 600) hx hb dX5_addIdealCard_9 (by decide) ?_
    refine k_callPI (k_goS (rest := []) hC hK (c_X5_in l g sp (nI 1) (nI 600)) L_X5_X5_in (⟨⟨Nat.le_of_ble_eq_true rfl, Nat.le_of_ble_eq_true rfl⟩, ⟨rfl, rfl⟩, ⟨Nat.le_of_ble_eq_true rfl, Nat.le_of_ble_eq_true rfl⟩⟩) (trivial) rfl hl.1 rfl (Nat.le_of_ble_eq_true rfl) dX5_addIdealCard_12) ?_
    refine b_ifeq (tgt := 40) hC dX5_addIdealCard_15 (by decide) (fun zc15 => ?_) (fun zc15 => ?_)
    · refine lv_ldc (v := (-2000000001 : Int32)) hx hb hown (hts _ w_669) dX5_addIdealCard_40 ?_
      exact k_iretM hC hr hlk hS dX5_addIdealCard_42 (by have hno : ¬ s_okI en sp sh lk := (by grind); unfold s_aiR s_aiF s_aiN; rw [if_neg hno, if_neg (fun q => hno q.1), if_neg (fun q => hno q.1)]; exact ⟨rfl, hP⟩)
    · refine lv_iload_n hx hb dX5_addIdealCard_18 rfl (lvG hl rfl) ?_
      refine lv_bipush (v := (-3 : Int32)) hx hb dX5_addIdealCard_19 (by decide) ?_
      refine lv_iconst (v := nI 3) hx hb dX5_addIdealCard_21 (by decide) ?_
      refine k_callPI (k_goS (rest := []) hC hK (c_X5_in l g sh ((-3 : Int32)) (nI 3)) L_X5_X5_in (⟨⟨Nat.le_of_ble_eq_true rfl, Nat.le_of_ble_eq_true rfl⟩, ⟨rfl, rfl⟩, ⟨Nat.le_of_ble_eq_true rfl, Nat.le_of_ble_eq_true rfl⟩⟩) (trivial) rfl hl.1 rfl (Nat.le_of_ble_eq_true rfl) dX5_addIdealCard_22) ?_
      refine b_ifeq (tgt := 40) hC dX5_addIdealCard_25 (by decide) (fun zc25 => ?_) (fun zc25 => ?_)
      · refine lv_ldc (v := (-2000000001 : Int32)) hx hb hown (hts _ w_669) dX5_addIdealCard_40 ?_
        exact k_iretM hC hr hlk hS dX5_addIdealCard_42 (by have hno : ¬ s_okI en sp sh lk := (by grind); unfold s_aiR s_aiF s_aiN; rw [if_neg hno, if_neg (fun q => hno q.1), if_neg (fun q => hno q.1)]; exact ⟨rfl, hP⟩)
      · refine lv_iload hx hb dX5_addIdealCard_28 (lvG hl rfl) ?_
        refine lv_bipush (v := (-20 : Int32)) hx hb dX5_addIdealCard_30 (by decide) ?_
        refine lv_bipush (v := nI 20) hx hb dX5_addIdealCard_32 (by decide) ?_
        refine k_callPI (k_goS (rest := []) hC hK (c_X5_in l g lk ((-20 : Int32)) (nI 20)) L_X5_X5_in (⟨⟨Nat.le_of_ble_eq_true rfl, Nat.le_of_ble_eq_true rfl⟩, ⟨rfl, rfl⟩, ⟨Nat.le_of_ble_eq_true rfl, Nat.le_of_ble_eq_true rfl⟩⟩) (trivial) rfl hl.1 rfl (Nat.le_of_ble_eq_true rfl) dX5_addIdealCard_34) ?_
        refine b_ifne (tgt := 43) hC dX5_addIdealCard_37 (by decide) (fun zc37 => ?_) (fun zc37 => ?_)
        · obtain ⟨j, h_j, ev_j⟩ := in_nat (by decide) (zc4)
          have e_j : (en).toNatClampNeg = j := by rw [ev_j]; exact nI_clamp (by omega)
          have hl : lv_has ls 9 [(0, .ref o), (1, .int (nI j)), (2, .int (sp)), (3, .int (sh)), (4, .int (lk))] := lv_eq hl (by rw [ev_j])
          refine lv_aload_n hx hb dX5_addIdealCard_43 rfl (lvG hl rfl) ?_
          refine lv_iload_n hx hb dX5_addIdealCard_44 rfl (lvG hl rfl) ?_
          refine lv_iconst (v := nI 0) hx hb dX5_addIdealCard_45 (by decide) ?_
          refine k_callPI (k_goV (rest := []) hC hK (c_X5_valveOf l g o q f n j 0 (by first | assumption | omega)) L_X5_X5_valveOf (⟨⟨Nat.le_of_ble_eq_true rfl, Nat.le_of_ble_eq_true rfl⟩, ⟨rfl, rfl⟩, ⟨Nat.le_of_ble_eq_true rfl, Nat.le_of_ble_eq_true rfl⟩⟩) (hP.recv hK) (hP) rfl hl.1 rfl (Nat.le_of_ble_eq_true rfl) dX5_addIdealCard_46) ?_
          refine lv_iload_n hx hb dX5_addIdealCard_49 rfl (lvG hl rfl) ?_
          refine lv_iadd hx hb dX5_addIdealCard_50 ?_
          refine lv_istore (lv' := [(5, .int ((f (8 + 4 * j + 0)) + sh)), (0, .ref o), (1, .int (nI j)), (2, .int (sp)), (3, .int (sh)), (4, .int (lk))]) hx hb dX5_addIdealCard_51 hl (by decide) rfl (fun ls hl => ?_)
          refine lv_aload_n hx hb dX5_addIdealCard_53 rfl (lvG hl rfl) ?_
          refine lv_iload_n hx hb dX5_addIdealCard_54 rfl (lvG hl rfl) ?_
          refine lv_iconst (v := nI 1) hx hb dX5_addIdealCard_55 (by decide) ?_
          refine k_callPI (k_goV (rest := []) hC hK (c_X5_valveOf l g o q f n j 1 (by first | assumption | omega)) L_X5_X5_valveOf (⟨⟨Nat.le_of_ble_eq_true rfl, Nat.le_of_ble_eq_true rfl⟩, ⟨rfl, rfl⟩, ⟨Nat.le_of_ble_eq_true rfl, Nat.le_of_ble_eq_true rfl⟩⟩) (hP.recv hK) (hP) rfl hl.1 rfl (Nat.le_of_ble_eq_true rfl) dX5_addIdealCard_56) ?_
          refine lv_iload_n hx hb dX5_addIdealCard_59 rfl (lvG hl rfl) ?_
          refine lv_iadd hx hb dX5_addIdealCard_60 ?_
          refine lv_istore (lv' := [(6, .int ((f (8 + 4 * j + 1)) + sh)), (5, .int ((f (8 + 4 * j + 0)) + sh)), (0, .ref o), (1, .int (nI j)), (2, .int (sp)), (3, .int (sh)), (4, .int (lk))]) hx hb dX5_addIdealCard_61 hl (by decide) rfl (fun ls hl => ?_)
          refine lv_aload_n hx hb dX5_addIdealCard_63 rfl (lvG hl rfl) ?_
          refine lv_iload_n hx hb dX5_addIdealCard_64 rfl (lvG hl rfl) ?_
          refine lv_iconst (v := nI 2) hx hb dX5_addIdealCard_65 (by decide) ?_
          refine k_callPI (k_goV (rest := []) hC hK (c_X5_valveOf l g o q f n j 2 (by first | assumption | omega)) L_X5_X5_valveOf (⟨⟨Nat.le_of_ble_eq_true rfl, Nat.le_of_ble_eq_true rfl⟩, ⟨rfl, rfl⟩, ⟨Nat.le_of_ble_eq_true rfl, Nat.le_of_ble_eq_true rfl⟩⟩) (hP.recv hK) (hP) rfl hl.1 rfl (Nat.le_of_ble_eq_true rfl) dX5_addIdealCard_66) ?_
          refine lv_iload_n hx hb dX5_addIdealCard_69 rfl (lvG hl rfl) ?_
          refine lv_iadd hx hb dX5_addIdealCard_70 ?_
          refine lv_istore (lv' := [(7, .int ((f (8 + 4 * j + 2)) + sh)), (6, .int ((f (8 + 4 * j + 1)) + sh)), (5, .int ((f (8 + 4 * j + 0)) + sh)), (0, .ref o), (1, .int (nI j)), (2, .int (sp)), (3, .int (sh)), (4, .int (lk))]) hx hb dX5_addIdealCard_71 hl (by decide) rfl (fun ls hl => ?_)
          refine lv_aload_n hx hb dX5_addIdealCard_73 rfl (lvG hl rfl) ?_
          refine lv_iload_n hx hb dX5_addIdealCard_74 rfl (lvG hl rfl) ?_
          refine lv_iconst (v := nI 3) hx hb dX5_addIdealCard_75 (by decide) ?_
          refine k_callPI (k_goV (rest := []) hC hK (c_X5_valveOf l g o q f n j 3 (by first | assumption | omega)) L_X5_X5_valveOf (⟨⟨Nat.le_of_ble_eq_true rfl, Nat.le_of_ble_eq_true rfl⟩, ⟨rfl, rfl⟩, ⟨Nat.le_of_ble_eq_true rfl, Nat.le_of_ble_eq_true rfl⟩⟩) (hP.recv hK) (hP) rfl hl.1 rfl (Nat.le_of_ble_eq_true rfl) dX5_addIdealCard_76) ?_
          refine lv_iload_n hx hb dX5_addIdealCard_79 rfl (lvG hl rfl) ?_
          refine lv_isub hx hb dX5_addIdealCard_80 ?_
          refine lv_istore (lv' := [(8, .int ((f (8 + 4 * j + 3)) - sh)), (7, .int ((f (8 + 4 * j + 2)) + sh)), (6, .int ((f (8 + 4 * j + 1)) + sh)), (5, .int ((f (8 + 4 * j + 0)) + sh)), (0, .ref o), (1, .int (nI j)), (2, .int (sp)), (3, .int (sh)), (4, .int (lk))]) hx hb dX5_addIdealCard_81 hl (by decide) rfl (fun ls hl => ?_)
          refine lv_iload hx hb dX5_addIdealCard_83 (lvG hl rfl) ?_
          refine lv_iconst (v := nI 0) hx hb dX5_addIdealCard_85 (by decide) ?_
          refine lv_bipush (v := nI 8) hx hb dX5_addIdealCard_86 (by decide) ?_
          refine k_callPI (k_goS (rest := []) hC hK (c_X5_in l g ((f (8 + 4 * j + 0)) + sh) (nI 0) (nI 8)) L_X5_X5_in (⟨⟨Nat.le_of_ble_eq_true rfl, Nat.le_of_ble_eq_true rfl⟩, ⟨rfl, rfl⟩, ⟨Nat.le_of_ble_eq_true rfl, Nat.le_of_ble_eq_true rfl⟩⟩) (trivial) rfl hl.1 rfl (Nat.le_of_ble_eq_true rfl) dX5_addIdealCard_88) ?_
          refine b_ifeq (tgt := 127) hC dX5_addIdealCard_91 (by decide) (fun zc91 => ?_) (fun zc91 => ?_)
          · refine lv_ldc (v := (-2000000002 : Int32)) hx hb hown (hts _ w_653) dX5_addIdealCard_127 ?_
            exact k_iretM hC hr hlk hS dX5_addIdealCard_129 (by have hno : ¬ s_exI f j sh := (by grind); unfold s_aiR s_aiF s_aiN s_aiP; rw [if_pos ⟨zc4, zc15, zc25, zc37⟩, e_j, if_neg hno, if_neg (fun q => hno q.2.1), if_neg (fun q => hno q.2.1)]; exact ⟨rfl, hP⟩)
          · refine lv_iload hx hb dX5_addIdealCard_94 (lvG hl rfl) ?_
            refine lv_iconst (v := nI 1) hx hb dX5_addIdealCard_96 (by decide) ?_
            refine lv_bipush (v := nI 19) hx hb dX5_addIdealCard_97 (by decide) ?_
            refine k_callPI (k_goS (rest := []) hC hK (c_X5_in l g ((f (8 + 4 * j + 1)) + sh) (nI 1) (nI 19)) L_X5_X5_in (⟨⟨Nat.le_of_ble_eq_true rfl, Nat.le_of_ble_eq_true rfl⟩, ⟨rfl, rfl⟩, ⟨Nat.le_of_ble_eq_true rfl, Nat.le_of_ble_eq_true rfl⟩⟩) (trivial) rfl hl.1 rfl (Nat.le_of_ble_eq_true rfl) dX5_addIdealCard_99) ?_
            refine b_ifeq (tgt := 127) hC dX5_addIdealCard_102 (by decide) (fun zc102 => ?_) (fun zc102 => ?_)
            · refine lv_ldc (v := (-2000000002 : Int32)) hx hb hown (hts _ w_653) dX5_addIdealCard_127 ?_
              exact k_iretM hC hr hlk hS dX5_addIdealCard_129 (by have hno : ¬ s_exI f j sh := (by grind); unfold s_aiR s_aiF s_aiN s_aiP; rw [if_pos ⟨zc4, zc15, zc25, zc37⟩, e_j, if_neg hno, if_neg (fun q => hno q.2.1), if_neg (fun q => hno q.2.1)]; exact ⟨rfl, hP⟩)
            · refine lv_iload hx hb dX5_addIdealCard_105 (lvG hl rfl) ?_
              refine lv_iconst (v := nI 2) hx hb dX5_addIdealCard_107 (by decide) ?_
              refine lv_bipush (v := nI 20) hx hb dX5_addIdealCard_108 (by decide) ?_
              refine k_callPI (k_goS (rest := []) hC hK (c_X5_in l g ((f (8 + 4 * j + 2)) + sh) (nI 2) (nI 20)) L_X5_X5_in (⟨⟨Nat.le_of_ble_eq_true rfl, Nat.le_of_ble_eq_true rfl⟩, ⟨rfl, rfl⟩, ⟨Nat.le_of_ble_eq_true rfl, Nat.le_of_ble_eq_true rfl⟩⟩) (trivial) rfl hl.1 rfl (Nat.le_of_ble_eq_true rfl) dX5_addIdealCard_110) ?_
              refine b_ifeq (tgt := 127) hC dX5_addIdealCard_113 (by decide) (fun zc113 => ?_) (fun zc113 => ?_)
              · refine lv_ldc (v := (-2000000002 : Int32)) hx hb hown (hts _ w_653) dX5_addIdealCard_127 ?_
                exact k_iretM hC hr hlk hS dX5_addIdealCard_129 (by have hno : ¬ s_exI f j sh := (by grind); unfold s_aiR s_aiF s_aiN s_aiP; rw [if_pos ⟨zc4, zc15, zc25, zc37⟩, e_j, if_neg hno, if_neg (fun q => hno q.2.1), if_neg (fun q => hno q.2.1)]; exact ⟨rfl, hP⟩)
              · refine lv_iload hx hb dX5_addIdealCard_116 (lvG hl rfl) ?_
                refine lv_iconst (v := nI 0) hx hb dX5_addIdealCard_118 (by decide) ?_
                refine lv_bipush (v := nI 19) hx hb dX5_addIdealCard_119 (by decide) ?_
                refine k_callPI (k_goS (rest := []) hC hK (c_X5_in l g ((f (8 + 4 * j + 3)) - sh) (nI 0) (nI 19)) L_X5_X5_in (⟨⟨Nat.le_of_ble_eq_true rfl, Nat.le_of_ble_eq_true rfl⟩, ⟨rfl, rfl⟩, ⟨Nat.le_of_ble_eq_true rfl, Nat.le_of_ble_eq_true rfl⟩⟩) (trivial) rfl hl.1 rfl (Nat.le_of_ble_eq_true rfl) dX5_addIdealCard_121) ?_
                refine b_ifne (tgt := 130) hC dX5_addIdealCard_124 (by decide) (fun zc124 => ?_) (fun zc124 => ?_)
                · refine lv_aload_n hx hb dX5_addIdealCard_130 rfl (lvG hl rfl) ?_
                  refine r_row hC hK hP dX5_addIdealCard_131 ?_
                  refine lv_bipush (v := nI 61) hx hb dX5_addIdealCard_134 (by decide) ?_
                  refine r_ald (k := 61) hC hK hP (by omega) dX5_addIdealCard_136 ?_
                  rw [hc]
                  refine lv_bipush (v := nI 10) hx hb dX5_addIdealCard_137 (by decide) ?_
                  refine n_icmp_ne (tgt := 145) hC dX5_addIdealCard_139 (by omega) (by omega) (by decide) (fun zc139 => ?_) (fun zc139 => ?_)
                  · refine lv_aload_n hx hb dX5_addIdealCard_145 rfl (lvG hl rfl) ?_
                    refine k_callMV0 (k_goV (rest := []) hC hK (c_X5_record l g o q f n) L_X5_X5_record (⟨⟨Nat.le_of_ble_eq_true rfl, Nat.le_of_ble_eq_true rfl⟩, ⟨rfl, rfl⟩, ⟨Nat.le_of_ble_eq_true rfl, Nat.le_of_ble_eq_true rfl⟩⟩) (hP.recv hK) (hP) rfl hl.1 rfl (Nat.le_of_ble_eq_true rfl) dX5_addIdealCard_146) hS (fun _ h => h) (fun H_1 locs_2 hP_3 _ _ hS_4 => ?_)
                    refine lv_aload_n hx hb dX5_addIdealCard_149 rfl (lvG hl rfl) ?_
                    refine lv_iload hx hb dX5_addIdealCard_150 (lvG hl rfl) ?_
                    refine lv_iload hx hb dX5_addIdealCard_152 (lvG hl rfl) ?_
                    refine lv_iload hx hb dX5_addIdealCard_154 (lvG hl rfl) ?_
                    refine lv_iload hx hb dX5_addIdealCard_156 (lvG hl rfl) ?_
                    refine lv_iload hx hb dX5_addIdealCard_158 (lvG hl rfl) ?_
                    refine k_callMV0 (k_goV (rest := []) hC hK (c_X5_draw l g o q (s_rec f n) (s_recn n) ((f (8 + 4 * j + 0)) + sh) ((f (8 + 4 * j + 1)) + sh) ((f (8 + 4 * j + 2)) + sh) ((f (8 + 4 * j + 3)) - sh) lk (s_vol_eq (s_rec_lo _ _ (by omega)) hv) (fun _ _ _ _ _ => r_ok zc113.1 zc113.2)) L_X5_X5_draw (⟨⟨Nat.le_of_ble_eq_true rfl, Nat.le_of_ble_eq_true rfl⟩, ⟨rfl, rfl⟩, ⟨Nat.le_of_ble_eq_true rfl, Nat.le_of_ble_eq_true rfl⟩⟩) (hP_3.recv hK) (hP_3) rfl hl.1 rfl (Nat.le_of_ble_eq_true rfl) dX5_addIdealCard_160) hS_4 (fun _ h => h) (fun H_5 locs_6 hP_7 _ _ hS_8 => ?_)
                    refine lv_aload_n hx hb dX5_addIdealCard_163 rfl (lvG hl rfl) ?_
                    refine lv_iload_n hx hb dX5_addIdealCard_164 rfl (lvG hl rfl) ?_
                    refine lv_iload_n hx hb dX5_addIdealCard_165 rfl (lvG hl rfl) ?_
                    refine k_callMI0 (k_goV (rest := []) hC hK (c_X5_addCard l g o q (s_drU (s_rec f n) ((f (8 + 4 * j + 0)) + sh) ((f (8 + 4 * j + 1)) + sh) ((f (8 + 4 * j + 2)) + sh) ((f (8 + 4 * j + 3)) - sh) lk) ((s_recn n)) (nI j) sp (cn) (by unfold s_drU; rw [s_dw_lo _ _ _ _ (by omega), s_rec_lo _ _ (by omega), hc]) (by omega)) L_X5_X5_addCard (⟨⟨Nat.le_of_ble_eq_true rfl, Nat.le_of_ble_eq_true rfl⟩, ⟨rfl, rfl⟩, ⟨Nat.le_of_ble_eq_true rfl, Nat.le_of_ble_eq_true rfl⟩⟩) (hP_7.recv hK) (hP_7) rfl hl.1 rfl (Nat.le_of_ble_eq_true rfl) dX5_addIdealCard_166) hS_8 (fun _ h => h) (fun r_ H_9 locs_10 hq_ _ _ hS_12 => ?_)
                    obtain ⟨rfl, hP_11⟩ := hq_
                    exact k_iretM hC hr hlk hS_12 dX5_addIdealCard_169 (by unfold s_aiR s_aiF s_aiN s_aiP; rw [if_pos ⟨zc4, zc15, zc25, zc37⟩, e_j, if_pos ⟨zc91, zc102, zc113, zc124⟩, if_neg zc139, if_pos ⟨⟨zc4, zc15, zc25, zc37⟩, ⟨zc91, zc102, zc113, zc124⟩, zc139⟩, if_pos ⟨⟨zc4, zc15, zc25, zc37⟩, ⟨zc91, zc102, zc113, zc124⟩, zc139⟩]; rw [← ev_j] at hP_11; exact ⟨rfl, hP_11⟩)
                  · refine lv_ldc (v := (-2000000003 : Int32)) hx hb hown (hts _ w_721) dX5_addIdealCard_142 ?_
                    exact k_iretM hC hr hlk hS dX5_addIdealCard_144 (by unfold s_aiR s_aiF s_aiN s_aiP; rw [if_pos ⟨zc4, zc15, zc25, zc37⟩, e_j, if_pos ⟨zc91, zc102, zc113, zc124⟩, if_pos zc139, if_neg (fun q => q.2.2 zc139), if_neg (fun q => q.2.2 zc139)]; exact ⟨rfl, hP⟩)
                · refine lv_ldc (v := (-2000000002 : Int32)) hx hb hown (hts _ w_653) dX5_addIdealCard_127 ?_
                  exact k_iretM hC hr hlk hS dX5_addIdealCard_129 (by have hno : ¬ s_exI f j sh := (by grind); unfold s_aiR s_aiF s_aiN s_aiP; rw [if_pos ⟨zc4, zc15, zc25, zc37⟩, e_j, if_neg hno, if_neg (fun q => hno q.2.1), if_neg (fun q => hno q.2.1)]; exact ⟨rfl, hP⟩)
        · refine lv_ldc (v := (-2000000001 : Int32)) hx hb hown (hts _ w_669) dX5_addIdealCard_40 ?_
          exact k_iretM hC hr hlk hS dX5_addIdealCard_42 (by have hno : ¬ s_okI en sp sh lk := (by grind); unfold s_aiR s_aiF s_aiN; rw [if_neg hno, if_neg (fun q => hno q.1), if_neg (fun q => hno q.1)]; exact ⟨rfl, hP⟩)
abbrev s_ibF (f : Nat → Int32) (j : Nat) (co : Int32) : Nat → Int32 := s_drU f (s_iv f j 0) co (s_iv f j 2) (s_iv f j 3) (nI 0)
def s_ibR (f : Nat → Int32) (j : Nat) (co : Int32) : Int32 := s_ar (fun k => s_ibF f j co (2510 + k)) 20
theorem s_ibF_lo (f : Nat → Int32) (j : Nat) (co : Int32) {i : Nat} (h : i < 2510) : s_ibF f j co i = f i := by unfold s_ibF s_drU; exact s_dw_lo _ _ _ _ h
theorem s_ar_eq {a b : Nat → Int32} : ∀ m, m ≤ 20 → (∀ k, k < 42 → a k = b k) → s_ar a m = s_ar b m
  | 0, _, _ => rfl
  | m + 1, hm, h => by
    unfold s_ar s_df
    rw [s_ar_eq m (by omega) h, h m (by omega), h (21 + m) (by omega), h (m + 1) (by omega), h (21 + (m + 1)) (by omega)]
/-- the pressures of an ideal card -/
def s_ip (f : Nat → Int32) (va vc vr vm lk : Int32) : Nat → Int32 := fun k => if k < 21 then s_do f va vc vr lk k else s_di f vm (k - 21)
theorem s_drU_at (f : Nat → Int32) (va vc vr vm lk : Int32) {k : Nat} (h : k < 42) : s_drU f va vc vr vm lk (2510 + k) = s_ip f va vc vr vm lk k := by
  unfold s_drU s_dw s_ip
  by_cases e : k < 21
  · rw [s_fl_out _ _ _ _ _ (by omega), s_fl_in _ _ _ _ _ e, if_pos e]
  · rw [if_neg e, show 2510 + k = 2531 + (k - 21) by omega, s_fl_in _ _ _ _ _ (by omega)]
theorem s_dk_eq {f F : Nat → Int32} (h : ∀ j, j < 2510 → F j = f j) (va vc vr lk : Int32) : ∀ i, s_dk F va vc vr lk i = s_dk f va vc vr lk i
  | 0 => by unfold s_dk; rw [h 4 (by omega), h 0 (by omega)]
  | i + 1 => by
    have ih := s_dk_eq h va vc vr lk i
    unfold s_dk
    rw [ih, h 0 (by omega)]
theorem s_ip_eq {f F : Nat → Int32} (h : ∀ j, j < 2510 → F j = f j) (va vc vr vm lk : Int32) (k : Nat) : s_ip F va vc vr vm lk k = s_ip f va vc vr vm lk k := by
  unfold s_ip s_do s_di
  rw [s_dk_eq h, s_dk_eq h, h 5 (by omega), h 4 (by omega), h 0 (by omega)]
theorem s_ibR_ip (f : Nat → Int32) (j : Nat) (co : Int32) : s_ibR f j co = s_ar (s_ip f (s_iv f j 0) co (s_iv f j 2) (s_iv f j 3) (nI 0)) 20 := s_ar_eq 20 (by omega) (fun k hk => s_drU_at _ _ _ _ _ _ hk)
theorem s_ibR_eq {f F : Nat → Int32} (h : ∀ j, j < 2510 → F j = f j) {j : Nat} (hj : j ≤ 1) (co : Int32) : s_ibR F j co = s_ibR f j co := by
  rw [s_ibR_ip, s_ibR_ip]
  unfold s_iv
  rw [h (8 + 4 * j + 0) (by omega), h (8 + 4 * j + 2) (by omega), h (8 + 4 * j + 3) (by omega)]
  exact s_ar_eq 20 (by omega) (fun k _ => s_ip_eq h _ _ _ _ _ k)
theorem s_pw_eq {f F : Nat → Int32} (h : ∀ j, j < 2510 → F j = f j) (a : Int32) {en : Nat} (he : en ≤ 1) (sp : Int32) : s_pw F a en sp = s_pw f a en sp := by unfold s_pw; rw [h (1 + en) (by omega), h 3 (by omega)]
/-- the release of a valve setting -/
def s_vr (f : Nat → Int32) (j : Nat) : Prop := nI 2 ≤ s_iv f j 2 ∧ s_iv f j 2 ≤ nI 20
theorem s_vr_eq {f F : Nat → Int32} (h : ∀ j, j < 2510 → F j = f j) {j : Nat} (hj : j ≤ 1) (hv : s_vr f j) : s_vr F j := by unfold s_vr s_iv; rw [h _ (by omega)]; exact hv
set_option maxHeartbeats 4000000 in
set_option maxRecDepth 100000 in
theorem c_X5_idealBy (l : Launch) (g : kG) (o : Nat) (q : Nat) (f : Nat → Int32) (n : Nat) (j : Nat) (co : Int32) (h : j ≤ 1) (hv : s_vol f) (hvr : s_vr f j) : MI l yX5_idealBy cX5_idealBy 3 (some .int) (rr 2 53) [.ref o, .int (nI j), .int (co)] ((RP g o q f n)) g 0 0 (RA o q) (fun r H1 => r = s_ibR f j co ∧ RP g o q (s_ibF f j co) (n) H1) := by
  refine kOf (by decide) (Nat.le_of_ble_eq_true rfl) (fun p e s m below meth c ls hC hr hlk hin hK hP hl => ?_)
  have hx := hC.1
  have hb := hC.2.1
  have hml := hC.2.2.1
  have hown := hC.2.2.2.1
  have hts := hC.2.2.2.2
  have hl : lv_has ls 3 [(0, .ref o), (1, .int (nI j)), (2, .int (co))] := hl
  have hS : va_S (RA o q) s.heap s.heap [] := va_S.rf
  refine lv_aload_n hx hb dX5_idealBy_0 rfl (lvG hl rfl) ?_
  refine lv_aload_n hx hb dX5_idealBy_1 rfl (lvG hl rfl) ?_
  refine lv_iload_n hx hb dX5_idealBy_2 rfl (lvG hl rfl) ?_
  refine lv_iconst (v := nI 0) hx hb dX5_idealBy_3 (by decide) ?_
  refine k_callPI (k_goV (rest := [.ref o]) hC hK (c_X5_valveOf l g o q f n j 0 (by first | assumption | omega)) L_X5_X5_valveOf (⟨⟨Nat.le_of_ble_eq_true rfl, Nat.le_of_ble_eq_true rfl⟩, ⟨rfl, rfl⟩, ⟨Nat.le_of_ble_eq_true rfl, Nat.le_of_ble_eq_true rfl⟩⟩) (hP.recv hK) (hP) rfl hl.1 rfl (Nat.le_of_ble_eq_true rfl) dX5_idealBy_4) ?_
  refine lv_iload_n hx hb dX5_idealBy_7 rfl (lvG hl rfl) ?_
  refine lv_aload_n hx hb dX5_idealBy_8 rfl (lvG hl rfl) ?_
  refine lv_iload_n hx hb dX5_idealBy_9 rfl (lvG hl rfl) ?_
  refine lv_iconst (v := nI 2) hx hb dX5_idealBy_10 (by decide) ?_
  refine k_callPI (k_goV (rest := [.int (co), .int (f (8 + 4 * j + 0)), .ref o]) hC hK (c_X5_valveOf l g o q f n j 2 (by first | assumption | omega)) L_X5_X5_valveOf (⟨⟨Nat.le_of_ble_eq_true rfl, Nat.le_of_ble_eq_true rfl⟩, ⟨rfl, rfl⟩, ⟨Nat.le_of_ble_eq_true rfl, Nat.le_of_ble_eq_true rfl⟩⟩) (hP.recv hK) (hP) rfl hl.1 rfl (Nat.le_of_ble_eq_true rfl) dX5_idealBy_11) ?_
  refine lv_aload_n hx hb dX5_idealBy_14 rfl (lvG hl rfl) ?_
  refine lv_iload_n hx hb dX5_idealBy_15 rfl (lvG hl rfl) ?_
  refine lv_iconst (v := nI 3) hx hb dX5_idealBy_16 (by decide) ?_
  refine k_callPI (k_goV (rest := [.int (f (8 + 4 * j + 2)), .int (co), .int (f (8 + 4 * j + 0)), .ref o]) hC hK (c_X5_valveOf l g o q f n j 3 (by first | assumption | omega)) L_X5_X5_valveOf (⟨⟨Nat.le_of_ble_eq_true rfl, Nat.le_of_ble_eq_true rfl⟩, ⟨rfl, rfl⟩, ⟨Nat.le_of_ble_eq_true rfl, Nat.le_of_ble_eq_true rfl⟩⟩) (hP.recv hK) (hP) rfl hl.1 rfl (Nat.le_of_ble_eq_true rfl) dX5_idealBy_17) ?_
  refine lv_iconst (v := nI 0) hx hb dX5_idealBy_20 (by decide) ?_
  refine k_callMV0 (k_goV (rest := []) hC hK (c_X5_draw l g o q f n (f (8 + 4 * j + 0)) co (f (8 + 4 * j + 2)) (f (8 + 4 * j + 3)) (nI 0) hv (fun _ _ _ _ _ => r_ok hvr.1 hvr.2)) L_X5_X5_draw (⟨⟨Nat.le_of_ble_eq_true rfl, Nat.le_of_ble_eq_true rfl⟩, ⟨rfl, rfl⟩, ⟨Nat.le_of_ble_eq_true rfl, Nat.le_of_ble_eq_true rfl⟩⟩) (hP.recv hK) (hP) rfl hl.1 rfl (Nat.le_of_ble_eq_true rfl) dX5_idealBy_21) hS (fun _ h => h) (fun H_1 locs_2 hP_3 _ _ hS_4 => ?_)
  refine lv_aload_n hx hb dX5_idealBy_24 rfl (lvG hl rfl) ?_
  refine lv_sipush (v := nI 2510) hx hb dX5_idealBy_25 (by decide) ?_
  refine k_callPI (k_goV (rest := []) hC hK (c_X5_areaAt l g o q (s_drU f (f (8 + 4 * j + 0)) co (f (8 + 4 * j + 2)) (f (8 + 4 * j + 3)) (nI 0)) n 2510 (by first | assumption | omega)) L_X5_X5_areaAt (⟨⟨Nat.le_of_ble_eq_true rfl, Nat.le_of_ble_eq_true rfl⟩, ⟨rfl, rfl⟩, ⟨Nat.le_of_ble_eq_true rfl, Nat.le_of_ble_eq_true rfl⟩⟩) (hP_3.recv hK) (hP_3) rfl hl.1 rfl (Nat.le_of_ble_eq_true rfl) dX5_idealBy_28) ?_
  exact k_iretM hC hr hlk hS_4 dX5_idealBy_31 (⟨rfl, hP_3⟩)
def s_iaR (f : Nat → Int32) (en : Int32) : Int32 := if nI 0 ≤ en ∧ en ≤ nI 1 then s_ibR f en.toNatClampNeg (s_iv f en.toNatClampNeg 1) else cINV
theorem L_X5_X5_idealBy : LnkV RX5 149 yX5_idealBy cX5_idealBy 3 (some .int) 2 := ⟨w_931, w_933, w_52, w_60, w_934, ⟨by decide +kernel, by decide +kernel⟩, by decide +kernel⟩
set_option maxHeartbeats 4000000 in
set_option maxRecDepth 100000 in
theorem c_X5_idealArea (l : Launch) (g : kG) (o : Nat) (q : Nat) (f : Nat → Int32) (n : Nat) (en : Int32) (hv : s_vol f) (hvr : ∀ j, j ≤ 1 → s_vr f j) : MI l yX5_idealArea cX5_idealArea 2 (some .int) (rr 3 75) [.ref o, .int (en)] ((RP g o q f n)) g 0 0 (RA o q) (fun r H1 => r = s_iaR f en ∧ RQ g o q f n H1) := by
  refine kOf (by decide) (Nat.le_of_ble_eq_true rfl) (fun p e s m below meth c ls hC hr hlk hin hK hP hl => ?_)
  have hx := hC.1
  have hb := hC.2.1
  have hml := hC.2.2.1
  have hown := hC.2.2.2.1
  have hts := hC.2.2.2.2
  have hl : lv_has ls 2 [(0, .ref o), (1, .int (en))] := hl
  have hS : va_S (RA o q) s.heap s.heap [] := va_S.rf
  refine lv_iload_n hx hb dX5_idealArea_0 rfl (lvG hl rfl) ?_
  refine k_callPI (k_goS (rest := []) hC hK (c_X5_isEnd l g en) L_X5_X5_isEnd (⟨⟨Nat.le_of_ble_eq_true rfl, Nat.le_of_ble_eq_true rfl⟩, ⟨rfl, rfl⟩, ⟨Nat.le_of_ble_eq_true rfl, Nat.le_of_ble_eq_true rfl⟩⟩) (trivial) rfl hl.1 rfl (Nat.le_of_ble_eq_true rfl) dX5_idealArea_1) ?_
  refine b_ifeq (tgt := 21) hC dX5_idealArea_4 (by decide) (fun zc4 => ?_) (fun zc4 => ?_)
  · refine lv_ldc (v := (-2000000001 : Int32)) hx hb hown (hts _ w_669) dX5_idealArea_21 ?_
    exact k_iretM hC hr hlk hS dX5_idealArea_23 (by unfold s_iaR; first | (rw [if_pos zc4, e_j]; exact ⟨rfl, ⟨_, fun _ h => s_ibF_lo _ _ _ h, hP⟩⟩) | (rw [if_neg zc4]; exact ⟨rfl, hP.q⟩))
  · obtain ⟨j, h_j, ev_j⟩ := in_nat (by decide) (zc4)
    have e_j : (en).toNatClampNeg = j := by rw [ev_j]; exact nI_clamp (by omega)
    have hl : lv_has ls 2 [(0, .ref o), (1, .int (nI j))] := lv_eq hl (by rw [ev_j])
    refine lv_aload_n hx hb dX5_idealArea_7 rfl (lvG hl rfl) ?_
    refine lv_iload_n hx hb dX5_idealArea_8 rfl (lvG hl rfl) ?_
    refine lv_aload_n hx hb dX5_idealArea_9 rfl (lvG hl rfl) ?_
    refine lv_iload_n hx hb dX5_idealArea_10 rfl (lvG hl rfl) ?_
    refine lv_iconst (v := nI 1) hx hb dX5_idealArea_11 (by decide) ?_
    refine k_callPI (k_goV (rest := [.int (nI j), .ref o]) hC hK (c_X5_valveOf l g o q f n j 1 (by first | assumption | omega)) L_X5_X5_valveOf (⟨⟨Nat.le_of_ble_eq_true rfl, Nat.le_of_ble_eq_true rfl⟩, ⟨rfl, rfl⟩, ⟨Nat.le_of_ble_eq_true rfl, Nat.le_of_ble_eq_true rfl⟩⟩) (hP.recv hK) (hP) rfl hl.1 rfl (Nat.le_of_ble_eq_true rfl) dX5_idealArea_12) ?_
    refine k_callMI0 (k_goV (rest := []) hC hK (c_X5_idealBy l g o q f n j (f (8 + 4 * j + 1)) (by first | assumption | omega) hv (hvr j h_j)) L_X5_X5_idealBy (⟨⟨Nat.le_of_ble_eq_true rfl, Nat.le_of_ble_eq_true rfl⟩, ⟨rfl, rfl⟩, ⟨Nat.le_of_ble_eq_true rfl, Nat.le_of_ble_eq_true rfl⟩⟩) (hP.recv hK) (hP) rfl hl.1 rfl (Nat.le_of_ble_eq_true rfl) dX5_idealArea_15) hS (fun _ h => h) (fun r_ H_1 locs_2 hq_ _ _ hS_4 => ?_)
    obtain ⟨rfl, hP_3⟩ := hq_
    refine lv_goto (tgt := 23) hx hb dX5_idealArea_18 (by decide) ?_
    exact k_iretM hC hr hlk hS_4 dX5_idealArea_23 (by unfold s_iaR; first | (rw [if_pos zc4, e_j]; exact ⟨rfl, ⟨_, fun _ h => s_ibF_lo _ _ _ h, hP_3⟩⟩) | (rw [if_neg zc4]; exact ⟨rfl, hP_3.q⟩))
abbrev s_can (f : Nat → Int32) (j : Nat) (co : Int32) : Prop := s_iv f j 0 < co ∧ co < s_iv f j 2
set_option maxHeartbeats 4000000 in
set_option maxRecDepth 100000 in
theorem c_X5_canCut (l : Launch) (g : kG) (o : Nat) (q : Nat) (f : Nat → Int32) (n : Nat) (j : Nat) (co : Int32) (h : j ≤ 1) : PI l yX5_canCut cX5_canCut 3 (some .boolean) (rr 1 22) [.ref o, .int (nI j), .int (co)] ((RP g o q f n)) g (if s_can f j co then 1 else 0) := by
  refine kOf (by decide) (Nat.le_of_ble_eq_true rfl) (fun p e s m below meth c ls hC hr hlk hin hK hP hl => ?_)
  have hx := hC.1
  have hb := hC.2.1
  have hml := hC.2.2.1
  have hown := hC.2.2.2.1
  have hts := hC.2.2.2.2
  have hl : lv_has ls 3 [(0, .ref o), (1, .int (nI j)), (2, .int (co))] := hl
  refine lv_iload_n hx hb dX5_canCut_0 rfl (lvG hl rfl) ?_
  refine lv_aload_n hx hb dX5_canCut_1 rfl (lvG hl rfl) ?_
  refine lv_iload_n hx hb dX5_canCut_2 rfl (lvG hl rfl) ?_
  refine lv_iconst (v := nI 0) hx hb dX5_canCut_3 (by decide) ?_
  refine k_callPI (k_goV (rest := [.int (co)]) hC hK (c_X5_valveOf l g o q f n j 0 (by first | assumption | omega)) L_X5_X5_valveOf (⟨⟨Nat.le_of_ble_eq_true rfl, Nat.le_of_ble_eq_true rfl⟩, ⟨rfl, rfl⟩, ⟨Nat.le_of_ble_eq_true rfl, Nat.le_of_ble_eq_true rfl⟩⟩) (hP.recv hK) (hP) rfl hl.1 rfl (Nat.le_of_ble_eq_true rfl) dX5_canCut_4) ?_
  refine lv_icmp_le (tgt := 24) hx hb dX5_canCut_7 (by decide) (fun zc7 => ?_) (fun zc7 => ?_)
  · refine lv_iconst (v := nI 0) hx hb dX5_canCut_24 (by decide) ?_
    exact k_zret hC hr hlk dX5_canCut_25 k_nar0 (by first | rfl | grind [] | grind [nI])
  · refine lv_iload_n hx hb dX5_canCut_10 rfl (lvG hl rfl) ?_
    refine lv_aload_n hx hb dX5_canCut_11 rfl (lvG hl rfl) ?_
    refine lv_iload_n hx hb dX5_canCut_12 rfl (lvG hl rfl) ?_
    refine lv_iconst (v := nI 2) hx hb dX5_canCut_13 (by decide) ?_
    refine k_callPI (k_goV (rest := [.int (co)]) hC hK (c_X5_valveOf l g o q f n j 2 (by first | assumption | omega)) L_X5_X5_valveOf (⟨⟨Nat.le_of_ble_eq_true rfl, Nat.le_of_ble_eq_true rfl⟩, ⟨rfl, rfl⟩, ⟨Nat.le_of_ble_eq_true rfl, Nat.le_of_ble_eq_true rfl⟩⟩) (hP.recv hK) (hP) rfl hl.1 rfl (Nat.le_of_ble_eq_true rfl) dX5_canCut_14) ?_
    refine lv_icmp_ge (tgt := 24) hx hb dX5_canCut_17 (by decide) (fun zc17 => ?_) (fun zc17 => ?_)
    · refine lv_iconst (v := nI 0) hx hb dX5_canCut_24 (by decide) ?_
      exact k_zret hC hr hlk dX5_canCut_25 k_nar0 (by first | rfl | grind [] | grind [nI])
    · refine lv_iconst (v := nI 1) hx hb dX5_canCut_20 (by decide) ?_
      refine lv_goto (tgt := 25) hx hb dX5_canCut_21 (by decide) ?_
      exact k_zret hC hr hlk dX5_canCut_25 k_nar1 (by first | rfl | grind [] | grind [nI])
def s_bc (f : Nat → Int32) (j : Nat) (w : Int32) : Nat → Nat × Int32
  | 0 => (0, nI 0)
  | i + 1 => if s_can f j (nI (i + 1)) ∧ ((s_bc f j w i).1 = 0 ∨ s_size (s_ibR f j (nI (i + 1)) - w) < (s_bc f j w i).2) then (i + 1, s_size (s_ibR f j (nI (i + 1)) - w)) else s_bc f j w i
theorem s_bc_t {f : Nat → Int32} {j i : Nat} {w : Int32} (h1 : s_can f j (nI (i + 1))) (h2 : (s_bc f j w i).1 = 0 ∨ s_size (s_ibR f j (nI (i + 1)) - w) < (s_bc f j w i).2) : s_bc f j w (i + 1) = (i + 1, s_size (s_ibR f j (nI (i + 1)) - w)) := by conv => { lhs; unfold s_bc }; rw [if_pos ⟨h1, h2⟩]
theorem s_bc_f {f : Nat → Int32} {j i : Nat} {w : Int32} (h : ¬ (s_can f j (nI (i + 1)) ∧ ((s_bc f j w i).1 = 0 ∨ s_size (s_ibR f j (nI (i + 1)) - w) < (s_bc f j w i).2))) : s_bc f j w (i + 1) = s_bc f j w i := by conv => { lhs; unfold s_bc }; rw [if_neg h]
theorem s_can_eq {f F : Nat → Int32} (h : ∀ j, j < 2510 → F j = f j) {j : Nat} (hj : j ≤ 1) (co : Int32) : s_can F j co ↔ s_can f j co := by unfold s_can s_iv; rw [h _ (by omega), h _ (by omega)]
theorem s_canb {f F : Nat → Int32} (h : ∀ j, j < 2510 → F j = f j) {j : Nat} (hj : j ≤ 1) (co : Int32) : (if s_can F j co then (1 : Int32) else 0) = if s_can f j co then 1 else 0 := by unfold s_can s_iv; rw [h _ (by omega), h _ (by omega)]
def s_bcoR (f : Nat → Int32) (en w : Int32) : Int32 := if (nI 0 ≤ en ∧ en ≤ nI 1) ∧ ((-200000 : Int32) ≤ w ∧ w ≤ nI 200000) then nI (s_bc f en.toNatClampNeg w 18).1 else cINV
def s_abl (v : Int64) : Int64 := if v < lN 0 then -v else v
def s_bl (f : Nat → Int32) (w : Int64) : Nat → Nat × Int64
  | 0 => (0, lN 0)
  | i + 1 => if s_can f 1 (nI (i + 1)) ∧ ((s_bl f w i).1 = 0 ∨ s_abl (s_pw f (s_ibR f 1 (nI (i + 1))) 1 (nI 60) - w) < (s_bl f w i).2) then (i + 1, s_abl (s_pw f (s_ibR f 1 (nI (i + 1))) 1 (nI 60) - w)) else s_bl f w i
theorem s_bl_t {f : Nat → Int32} {i : Nat} {w : Int64} (h1 : s_can f 1 (nI (i + 1))) (h2 : (s_bl f w i).1 = 0 ∨ s_abl (s_pw f (s_ibR f 1 (nI (i + 1))) 1 (nI 60) - w) < (s_bl f w i).2) : s_bl f w (i + 1) = (i + 1, s_abl (s_pw f (s_ibR f 1 (nI (i + 1))) 1 (nI 60) - w)) := by conv => { lhs; unfold s_bl }; rw [if_pos ⟨h1, h2⟩]
theorem s_bl_f {f : Nat → Int32} {i : Nat} {w : Int64} (h : ¬ (s_can f 1 (nI (i + 1)) ∧ ((s_bl f w i).1 = 0 ∨ s_abl (s_pw f (s_ibR f 1 (nI (i + 1))) 1 (nI 60) - w) < (s_bl f w i).2))) : s_bl f w (i + 1) = s_bl f w i := by conv => { lhs; unfold s_bl }; rw [if_neg h]
def s_baW (f : Nat → Int32) : Int64 := s_pw f (s_ibR f 0 (s_iv f 0 1)) 0 (nI 60)
def s_baR (f : Nat → Int32) : Int32 := nI (s_bl f (s_baW f) 18).1
theorem L_X5_X5_canCut : LnkV RX5 154 yX5_canCut cX5_canCut 3 (some .boolean) 2 := ⟨w_941, w_943, w_53, w_60, w_944, ⟨by decide +kernel, by decide +kernel⟩, by decide +kernel⟩
theorem L_X5_X5_size : LnkS RX5 131 yX5_size cX5_size 1 (some .int) 1 := ⟨w_882, w_883, w_60, w_884, ⟨by decide +kernel, by decide +kernel⟩, by decide +kernel⟩
set_option maxHeartbeats 4000000 in
set_option maxRecDepth 100000 in
theorem c_X5_bestCutOff (l : Launch) (g : kG) (o : Nat) (q : Nat) (f : Nat → Int32) (n : Nat) (en : Int32) (w : Int32) (hv : s_vol f) (hvr : ∀ j, j ≤ 1 → s_vr f j) : MI l yX5_bestCutOff cX5_bestCutOff 8 (some .int) (rr 3 75) [.ref o, .int (en), .int (w)] ((RP g o q f n)) g 0 0 (RA o q) (fun r H1 => r = s_bcoR f en w ∧ RQ g o q f n H1) := by
  refine kOf (by decide) (Nat.le_of_ble_eq_true rfl) (fun p e s m below meth c ls hC hr hlk hin hK hP hl => ?_)
  have hx := hC.1
  have hb := hC.2.1
  have hml := hC.2.2.1
  have hown := hC.2.2.2.1
  have hts := hC.2.2.2.2
  have hl : lv_has ls 8 [(0, .ref o), (1, .int (en)), (2, .int (w))] := hl
  have hS : va_S (RA o q) s.heap s.heap [] := va_S.rf
  refine lv_iload_n hx hb dX5_bestCutOff_0 rfl (lvG hl rfl) ?_
  refine k_callPI (k_goS (rest := []) hC hK (c_X5_isEnd l g en) L_X5_X5_isEnd (⟨⟨Nat.le_of_ble_eq_true rfl, Nat.le_of_ble_eq_true rfl⟩, ⟨rfl, rfl⟩, ⟨Nat.le_of_ble_eq_true rfl, Nat.le_of_ble_eq_true rfl⟩⟩) (trivial) rfl hl.1 rfl (Nat.le_of_ble_eq_true rfl) dX5_bestCutOff_1) ?_
  refine b_ifeq (tgt := 18) hC dX5_bestCutOff_4 (by decide) (fun zc4 => ?_) (fun zc4 => ?_)
  · refine lv_ldc (v := (-2000000001 : Int32)) hx hb hown (hts _ w_669) dX5_bestCutOff_18 ?_
    exact k_iretM hC hr hlk hS dX5_bestCutOff_20 (by unfold s_bcoR; rw [if_neg (by grind)]; exact ⟨rfl, hP.q⟩)
  · refine lv_iload_n hx hb dX5_bestCutOff_7 rfl (lvG hl rfl) ?_
    refine lv_ldc (v := (-200000 : Int32)) hx hb hown (hts _ w_939) dX5_bestCutOff_8 ?_
    refine lv_ldc (v := nI 200000) hx hb hown (hts _ w_940) dX5_bestCutOff_10 ?_
    refine k_callPI (k_goS (rest := []) hC hK (c_X5_in l g w ((-200000 : Int32)) (nI 200000)) L_X5_X5_in (⟨⟨Nat.le_of_ble_eq_true rfl, Nat.le_of_ble_eq_true rfl⟩, ⟨rfl, rfl⟩, ⟨Nat.le_of_ble_eq_true rfl, Nat.le_of_ble_eq_true rfl⟩⟩) (trivial) rfl hl.1 rfl (Nat.le_of_ble_eq_true rfl) dX5_bestCutOff_12) ?_
    refine b_ifne (tgt := 21) hC dX5_bestCutOff_15 (by decide) (fun zc15 => ?_) (fun zc15 => ?_)
    · obtain ⟨j, h_j, ev_j⟩ := in_nat (by decide) (zc4)
      have e_j : (en).toNatClampNeg = j := by rw [ev_j]; exact nI_clamp (by omega)
      have hl : lv_has ls 8 [(0, .ref o), (1, .int (nI j)), (2, .int (w))] := lv_eq hl (by rw [ev_j])
      refine lv_iconst (v := nI 0) hx hb dX5_bestCutOff_21 (by decide) ?_
      refine lv_istore_n (lv' := [(3, .int (nI 0)), (0, .ref o), (1, .int (nI j)), (2, .int (w))]) hx hb dX5_bestCutOff_22 rfl hl (by decide) rfl (fun ls hl => ?_)
      refine lv_iconst (v := nI 0) hx hb dX5_bestCutOff_23 (by decide) ?_
      refine lv_istore (lv' := [(4, .int (nI 0)), (3, .int (nI 0)), (0, .ref o), (1, .int (nI j)), (2, .int (w))]) hx hb dX5_bestCutOff_24 hl (by decide) rfl (fun ls hl => ?_)
      refine lv_iconst (v := nI 1) hx hb dX5_bestCutOff_26 (by decide) ?_
      refine lv_istore (lv' := [(5, .int (nI 1)), (4, .int (nI 0)), (3, .int (nI 0)), (0, .ref o), (1, .int (nI j)), (2, .int (w))]) hx hb dX5_bestCutOff_27 hl (by decide) rfl (fun ls hl => ?_)
      have key_1 : ∀ (k_2 : Nat) (i : Nat) (lt : Int32) (b : Nat) (F : Nat → Int32) (H_l29 : Heap) (locs_l29 : List Loc) (hP_l29 : RP g o q F n H_l29) (hS_l29 : va_S (RA o q) s.heap H_l29 locs_l29) (hi : i ≤ 18) (hF : ∀ t, t < 2510 → F t = f t) (hbs : b = (s_bc f j w i).1) (hlt : lt = (s_bc f j w i).2) (hbb : b ≤ i) (hk_k_2 : 18 - i < k_2) (ls : Array Slot) (hl : lv_has ls 8 [(5, .int (nI (i + 1))), (4, .int (lt)), (3, .int (nI b)), (0, .ref o), (1, .int (nI j)), (2, .int (w))]), W p l e (rr 3 75) s m [.ref o, .int (en), .int (w)].toArray below meth c H_l29 locs_l29 0 0 (MQ below (qI (RA o q) (fun r H1 => r = s_bcoR f en w ∧ RQ g o q f n H1)) [.ref o, .int (en), .int (w)].toArray s 0 0 (RA o q)) (F0 m 29 ls ([])) := by
        intro k_2
        induction k_2 with
        | zero => intro i lt b F H_l29 locs_l29 hP_l29 hS_l29 hi hF hbs hlt hbb hk_k_2 ls hl; exact absurd hk_k_2 (Nat.not_lt_zero _)
        | succ k_2 ih_3 =>
          intro i lt b F H_l29 locs_l29 hP_l29 hS_l29 hi hF hbs hlt hbb hk_k_2 ls hl
          refine lv_iload hx hb dX5_bestCutOff_29 (lvG hl rfl) ?_
          refine lv_bipush (v := nI 19) hx hb dX5_bestCutOff_31 (by decide) ?_
          refine n_icmp_ge (tgt := 124) hC dX5_bestCutOff_33 (by omega) (by omega) (by decide) (fun zc33 => ?_) (fun zc33 => ?_)
          · refine lv_iload_n hx hb dX5_bestCutOff_124 rfl (lvG hl rfl) ?_
            exact k_iretM hC hr hlk hS_l29 dX5_bestCutOff_125 (by unfold s_bcoR; rw [if_pos ⟨zc4, zc15⟩, e_j, hbs, show i = 18 by omega]; exact ⟨rfl, ⟨F, hF, hP_l29⟩⟩)
          · refine lv_aload_n hx hb dX5_bestCutOff_36 rfl (lvG hl rfl) ?_
            refine lv_iload_n hx hb dX5_bestCutOff_37 rfl (lvG hl rfl) ?_
            refine lv_iload hx hb dX5_bestCutOff_38 (lvG hl rfl) ?_
            refine k_callPI (k_goV (rest := []) hC hK (c_X5_canCut l g o q F n j (nI (i + 1)) (h_j)) L_X5_X5_canCut (⟨⟨Nat.le_of_ble_eq_true rfl, Nat.le_of_ble_eq_true rfl⟩, ⟨rfl, rfl⟩, ⟨Nat.le_of_ble_eq_true rfl, Nat.le_of_ble_eq_true rfl⟩⟩) (hP_l29.recv hK) (hP_l29) rfl hl.1 rfl (Nat.le_of_ble_eq_true rfl) dX5_bestCutOff_40) ?_
            rw [s_canb hF h_j]
            refine b_ifeq (tgt := 61) hC dX5_bestCutOff_43 (by decide) (fun zc43 => ?_) (fun zc43 => ?_)
            · refine lv_iconst (v := nI 0) hx hb dX5_bestCutOff_61 (by decide) ?_
              refine lv_istore (lv' := [(6, .int (nI 0)), (5, .int (nI (i + 1))), (4, .int (lt)), (3, .int (nI b)), (0, .ref o), (1, .int (nI j)), (2, .int (w))]) hx hb dX5_bestCutOff_62 hl (by decide) rfl (fun ls hl => ?_)
              refine lv_aload_n hx hb dX5_bestCutOff_64 rfl (lvG hl rfl) ?_
              refine lv_iload_n hx hb dX5_bestCutOff_65 rfl (lvG hl rfl) ?_
              refine lv_iload hx hb dX5_bestCutOff_66 (lvG hl rfl) ?_
              refine k_callPI (k_goV (rest := []) hC hK (c_X5_canCut l g o q F n j (nI (i + 1)) (h_j)) L_X5_X5_canCut (⟨⟨Nat.le_of_ble_eq_true rfl, Nat.le_of_ble_eq_true rfl⟩, ⟨rfl, rfl⟩, ⟨Nat.le_of_ble_eq_true rfl, Nat.le_of_ble_eq_true rfl⟩⟩) (hP_l29.recv hK) (hP_l29) rfl hl.1 rfl (Nat.le_of_ble_eq_true rfl) dX5_bestCutOff_68) ?_
              first | rw [s_canb hF h_j] | rw [s_canb (fun t ht => (s_ibF_lo _ _ _ ht).trans (hF t ht)) h_j]
              refine b_ifeq (tgt := 89) hC dX5_bestCutOff_71 (by decide) (fun zc71 => ?_) (fun zc71 => ?_)
              · refine lv_iconst (v := nI 0) hx hb dX5_bestCutOff_89 (by decide) ?_
                refine lv_istore (lv' := [(7, .int (nI 0)), (6, .int (nI 0)), (5, .int (nI (i + 1))), (4, .int (lt)), (3, .int (nI b)), (0, .ref o), (1, .int (nI j)), (2, .int (w))]) hx hb dX5_bestCutOff_90 hl (by decide) rfl (fun ls hl => ?_)
                refine lv_iload hx hb dX5_bestCutOff_92 (lvG hl rfl) ?_
                refine n_if_eq (tgt := 102) hC dX5_bestCutOff_94 (by decide) (by decide) (fun _ => ?_) (fun c => absurd c (by decide))
                refine lv_iload_n hx hb dX5_bestCutOff_102 rfl (lvG hl rfl) ?_
                refine lv_istore_n (lv' := [(3, .int (nI b)), (7, .int (nI 0)), (6, .int (nI 0)), (5, .int (nI (i + 1))), (4, .int (lt)), (0, .ref o), (1, .int (nI j)), (2, .int (w))]) hx hb dX5_bestCutOff_103 rfl hl (by decide) rfl (fun ls hl => ?_)
                refine lv_iload hx hb dX5_bestCutOff_104 (lvG hl rfl) ?_
                refine n_if_eq (tgt := 114) hC dX5_bestCutOff_106 (by decide) (by decide) (fun _ => ?_) (fun c => absurd c (by decide))
                refine lv_iload hx hb dX5_bestCutOff_114 (lvG hl rfl) ?_
                refine lv_istore (lv' := [(4, .int (lt)), (3, .int (nI b)), (7, .int (nI 0)), (6, .int (nI 0)), (5, .int (nI (i + 1))), (0, .ref o), (1, .int (nI j)), (2, .int (w))]) hx hb dX5_bestCutOff_116 hl (by decide) rfl (fun ls hl => ?_)
                refine n_iinc (lv' := [(5, .int (nI (i + 1 + 1))), (4, .int (lt)), (3, .int (nI b)), (7, .int (nI 0)), (6, .int (nI 0)), (0, .ref o), (1, .int (nI j)), (2, .int (w))]) hC dX5_bestCutOff_118 hl rfl (by decide) rfl (fun ls hl => ?_)
                refine lv_goto (tgt := 29) hx hb dX5_bestCutOff_121 (by decide) ?_
                exact ih_3 (i + 1) lt b F _ _ hP_l29 hS_l29 (by first | omega | assumption | rfl) (by first | exact hF | exact (fun t ht => (s_ibF_lo _ _ _ ht).trans (hF t ht))) (by first | exact absurd zc43 zc71 | exact absurd zc71 zc43 | (rw [s_bc_t zc43 (Or.inl (by rw [← hbs]; exact zc75))]; done) | (rw [s_bc_t zc43 (Or.inr (by rw [← hlt]; exact Int32.not_le.mp zc82))]; done) | (rw [s_bc_f (fun q => by first | exact absurd q.1 zc71 | exact absurd q.1 zc43 | (rcases q.2 with q | q; exact zc75 (by rw [hbs]; exact q); exact absurd q (by rw [← hlt]; exact Int32.not_lt.mpr zc82)))]; exact hbs)) (by first | exact absurd zc43 zc71 | exact absurd zc71 zc43 | (rw [s_bc_t zc43 (Or.inl (by rw [← hbs]; exact zc75))]; done) | (rw [s_bc_t zc43 (Or.inr (by rw [← hlt]; exact Int32.not_le.mp zc82))]; done) | (rw [s_bc_f (fun q => by first | exact absurd q.1 zc71 | exact absurd q.1 zc43 | (rcases q.2 with q | q; exact zc75 (by rw [hbs]; exact q); exact absurd q (by rw [← hlt]; exact Int32.not_lt.mpr zc82)))]; exact hlt)) (by first | omega | assumption | rfl) (by omega) ls (lv_sub hl [0, 1, 2, 5, 6, 7] rfl)
              · refine lv_iload_n hx hb dX5_bestCutOff_74 rfl (lvG hl rfl) ?_
                refine n_if_eq (tgt := 85) hC dX5_bestCutOff_75 (by omega) (by decide) (fun zc75 => ?_) (fun zc75 => ?_)
                · refine lv_iconst (v := nI 1) hx hb dX5_bestCutOff_85 (by decide) ?_
                  refine lv_goto (tgt := 90) hx hb dX5_bestCutOff_86 (by decide) ?_
                  refine lv_istore (lv' := [(7, .int (nI 1)), (6, .int (nI 0)), (5, .int (nI (i + 1))), (4, .int (lt)), (3, .int (nI b)), (0, .ref o), (1, .int (nI j)), (2, .int (w))]) hx hb dX5_bestCutOff_90 hl (by decide) rfl (fun ls hl => ?_)
                  refine lv_iload hx hb dX5_bestCutOff_92 (lvG hl rfl) ?_
                  refine n_if_eq (tgt := 102) hC dX5_bestCutOff_94 (by decide) (by decide) (fun c => absurd c (by decide)) (fun _ => ?_)
                  refine lv_iload hx hb dX5_bestCutOff_97 (lvG hl rfl) ?_
                  refine lv_goto (tgt := 103) hx hb dX5_bestCutOff_99 (by decide) ?_
                  refine lv_istore_n (lv' := [(3, .int (nI (i + 1))), (7, .int (nI 1)), (6, .int (nI 0)), (5, .int (nI (i + 1))), (4, .int (lt)), (0, .ref o), (1, .int (nI j)), (2, .int (w))]) hx hb dX5_bestCutOff_103 rfl hl (by decide) rfl (fun ls hl => ?_)
                  refine lv_iload hx hb dX5_bestCutOff_104 (lvG hl rfl) ?_
                  refine n_if_eq (tgt := 114) hC dX5_bestCutOff_106 (by decide) (by decide) (fun c => absurd c (by decide)) (fun _ => ?_)
                  refine lv_iload hx hb dX5_bestCutOff_109 (lvG hl rfl) ?_
                  refine lv_goto (tgt := 116) hx hb dX5_bestCutOff_111 (by decide) ?_
                  refine lv_istore (lv' := [(4, .int (nI 0)), (3, .int (nI (i + 1))), (7, .int (nI 1)), (6, .int (nI 0)), (5, .int (nI (i + 1))), (0, .ref o), (1, .int (nI j)), (2, .int (w))]) hx hb dX5_bestCutOff_116 hl (by decide) rfl (fun ls hl => ?_)
                  refine n_iinc (lv' := [(5, .int (nI (i + 1 + 1))), (4, .int (nI 0)), (3, .int (nI (i + 1))), (7, .int (nI 1)), (6, .int (nI 0)), (0, .ref o), (1, .int (nI j)), (2, .int (w))]) hC dX5_bestCutOff_118 hl rfl (by decide) rfl (fun ls hl => ?_)
                  refine lv_goto (tgt := 29) hx hb dX5_bestCutOff_121 (by decide) ?_
                  exact ih_3 (i + 1) (nI 0) (i + 1) F _ _ hP_l29 hS_l29 (by first | omega | assumption | rfl) (by first | exact hF | exact (fun t ht => (s_ibF_lo _ _ _ ht).trans (hF t ht))) (by first | exact absurd zc43 zc71 | exact absurd zc71 zc43 | (rw [s_bc_t zc43 (Or.inl (by rw [← hbs]; exact zc75))]; done) | (rw [s_bc_t zc43 (Or.inr (by rw [← hlt]; exact Int32.not_le.mp zc82))]; done) | (rw [s_bc_f (fun q => by first | exact absurd q.1 zc71 | exact absurd q.1 zc43 | (rcases q.2 with q | q; exact zc75 (by rw [hbs]; exact q); exact absurd q (by rw [← hlt]; exact Int32.not_lt.mpr zc82)))]; exact hbs)) (by first | exact absurd zc43 zc71 | exact absurd zc71 zc43 | (rw [s_bc_t zc43 (Or.inl (by rw [← hbs]; exact zc75))]; done) | (rw [s_bc_t zc43 (Or.inr (by rw [← hlt]; exact Int32.not_le.mp zc82))]; done) | (rw [s_bc_f (fun q => by first | exact absurd q.1 zc71 | exact absurd q.1 zc43 | (rcases q.2 with q | q; exact zc75 (by rw [hbs]; exact q); exact absurd q (by rw [← hlt]; exact Int32.not_lt.mpr zc82)))]; exact hlt)) (by first | omega | assumption | rfl) (by omega) ls (lv_sub hl [0, 1, 2, 5, 6, 7] rfl)
                · refine lv_iload hx hb dX5_bestCutOff_78 (lvG hl rfl) ?_
                  refine lv_iload hx hb dX5_bestCutOff_80 (lvG hl rfl) ?_
                  refine lv_icmp_ge (tgt := 89) hx hb dX5_bestCutOff_82 (by decide) (fun zc82 => ?_) (fun zc82 => ?_)
                  · refine lv_iconst (v := nI 0) hx hb dX5_bestCutOff_89 (by decide) ?_
                    refine lv_istore (lv' := [(7, .int (nI 0)), (6, .int (nI 0)), (5, .int (nI (i + 1))), (4, .int (lt)), (3, .int (nI b)), (0, .ref o), (1, .int (nI j)), (2, .int (w))]) hx hb dX5_bestCutOff_90 hl (by decide) rfl (fun ls hl => ?_)
                    refine lv_iload hx hb dX5_bestCutOff_92 (lvG hl rfl) ?_
                    refine n_if_eq (tgt := 102) hC dX5_bestCutOff_94 (by decide) (by decide) (fun _ => ?_) (fun c => absurd c (by decide))
                    refine lv_iload_n hx hb dX5_bestCutOff_102 rfl (lvG hl rfl) ?_
                    refine lv_istore_n (lv' := [(3, .int (nI b)), (7, .int (nI 0)), (6, .int (nI 0)), (5, .int (nI (i + 1))), (4, .int (lt)), (0, .ref o), (1, .int (nI j)), (2, .int (w))]) hx hb dX5_bestCutOff_103 rfl hl (by decide) rfl (fun ls hl => ?_)
                    refine lv_iload hx hb dX5_bestCutOff_104 (lvG hl rfl) ?_
                    refine n_if_eq (tgt := 114) hC dX5_bestCutOff_106 (by decide) (by decide) (fun _ => ?_) (fun c => absurd c (by decide))
                    refine lv_iload hx hb dX5_bestCutOff_114 (lvG hl rfl) ?_
                    refine lv_istore (lv' := [(4, .int (lt)), (3, .int (nI b)), (7, .int (nI 0)), (6, .int (nI 0)), (5, .int (nI (i + 1))), (0, .ref o), (1, .int (nI j)), (2, .int (w))]) hx hb dX5_bestCutOff_116 hl (by decide) rfl (fun ls hl => ?_)
                    refine n_iinc (lv' := [(5, .int (nI (i + 1 + 1))), (4, .int (lt)), (3, .int (nI b)), (7, .int (nI 0)), (6, .int (nI 0)), (0, .ref o), (1, .int (nI j)), (2, .int (w))]) hC dX5_bestCutOff_118 hl rfl (by decide) rfl (fun ls hl => ?_)
                    refine lv_goto (tgt := 29) hx hb dX5_bestCutOff_121 (by decide) ?_
                    exact ih_3 (i + 1) lt b F _ _ hP_l29 hS_l29 (by first | omega | assumption | rfl) (by first | exact hF | exact (fun t ht => (s_ibF_lo _ _ _ ht).trans (hF t ht))) (by first | exact absurd zc43 zc71 | exact absurd zc71 zc43 | (rw [s_bc_t zc43 (Or.inl (by rw [← hbs]; exact zc75))]; done) | (rw [s_bc_t zc43 (Or.inr (by rw [← hlt]; exact Int32.not_le.mp zc82))]; done) | (rw [s_bc_f (fun q => by first | exact absurd q.1 zc71 | exact absurd q.1 zc43 | (rcases q.2 with q | q; exact zc75 (by rw [hbs]; exact q); exact absurd q (by rw [← hlt]; exact Int32.not_lt.mpr zc82)))]; exact hbs)) (by first | exact absurd zc43 zc71 | exact absurd zc71 zc43 | (rw [s_bc_t zc43 (Or.inl (by rw [← hbs]; exact zc75))]; done) | (rw [s_bc_t zc43 (Or.inr (by rw [← hlt]; exact Int32.not_le.mp zc82))]; done) | (rw [s_bc_f (fun q => by first | exact absurd q.1 zc71 | exact absurd q.1 zc43 | (rcases q.2 with q | q; exact zc75 (by rw [hbs]; exact q); exact absurd q (by rw [← hlt]; exact Int32.not_lt.mpr zc82)))]; exact hlt)) (by first | omega | assumption | rfl) (by omega) ls (lv_sub hl [0, 1, 2, 5, 6, 7] rfl)
                  · refine lv_iconst (v := nI 1) hx hb dX5_bestCutOff_85 (by decide) ?_
                    refine lv_goto (tgt := 90) hx hb dX5_bestCutOff_86 (by decide) ?_
                    refine lv_istore (lv' := [(7, .int (nI 1)), (6, .int (nI 0)), (5, .int (nI (i + 1))), (4, .int (lt)), (3, .int (nI b)), (0, .ref o), (1, .int (nI j)), (2, .int (w))]) hx hb dX5_bestCutOff_90 hl (by decide) rfl (fun ls hl => ?_)
                    refine lv_iload hx hb dX5_bestCutOff_92 (lvG hl rfl) ?_
                    refine n_if_eq (tgt := 102) hC dX5_bestCutOff_94 (by decide) (by decide) (fun c => absurd c (by decide)) (fun _ => ?_)
                    refine lv_iload hx hb dX5_bestCutOff_97 (lvG hl rfl) ?_
                    refine lv_goto (tgt := 103) hx hb dX5_bestCutOff_99 (by decide) ?_
                    refine lv_istore_n (lv' := [(3, .int (nI (i + 1))), (7, .int (nI 1)), (6, .int (nI 0)), (5, .int (nI (i + 1))), (4, .int (lt)), (0, .ref o), (1, .int (nI j)), (2, .int (w))]) hx hb dX5_bestCutOff_103 rfl hl (by decide) rfl (fun ls hl => ?_)
                    refine lv_iload hx hb dX5_bestCutOff_104 (lvG hl rfl) ?_
                    refine n_if_eq (tgt := 114) hC dX5_bestCutOff_106 (by decide) (by decide) (fun c => absurd c (by decide)) (fun _ => ?_)
                    refine lv_iload hx hb dX5_bestCutOff_109 (lvG hl rfl) ?_
                    refine lv_goto (tgt := 116) hx hb dX5_bestCutOff_111 (by decide) ?_
                    refine lv_istore (lv' := [(4, .int (nI 0)), (3, .int (nI (i + 1))), (7, .int (nI 1)), (6, .int (nI 0)), (5, .int (nI (i + 1))), (0, .ref o), (1, .int (nI j)), (2, .int (w))]) hx hb dX5_bestCutOff_116 hl (by decide) rfl (fun ls hl => ?_)
                    refine n_iinc (lv' := [(5, .int (nI (i + 1 + 1))), (4, .int (nI 0)), (3, .int (nI (i + 1))), (7, .int (nI 1)), (6, .int (nI 0)), (0, .ref o), (1, .int (nI j)), (2, .int (w))]) hC dX5_bestCutOff_118 hl rfl (by decide) rfl (fun ls hl => ?_)
                    refine lv_goto (tgt := 29) hx hb dX5_bestCutOff_121 (by decide) ?_
                    exact ih_3 (i + 1) (nI 0) (i + 1) F _ _ hP_l29 hS_l29 (by first | omega | assumption | rfl) (by first | exact hF | exact (fun t ht => (s_ibF_lo _ _ _ ht).trans (hF t ht))) (by first | exact absurd zc43 zc71 | exact absurd zc71 zc43 | (rw [s_bc_t zc43 (Or.inl (by rw [← hbs]; exact zc75))]; done) | (rw [s_bc_t zc43 (Or.inr (by rw [← hlt]; exact Int32.not_le.mp zc82))]; done) | (rw [s_bc_f (fun q => by first | exact absurd q.1 zc71 | exact absurd q.1 zc43 | (rcases q.2 with q | q; exact zc75 (by rw [hbs]; exact q); exact absurd q (by rw [← hlt]; exact Int32.not_lt.mpr zc82)))]; exact hbs)) (by first | exact absurd zc43 zc71 | exact absurd zc71 zc43 | (rw [s_bc_t zc43 (Or.inl (by rw [← hbs]; exact zc75))]; done) | (rw [s_bc_t zc43 (Or.inr (by rw [← hlt]; exact Int32.not_le.mp zc82))]; done) | (rw [s_bc_f (fun q => by first | exact absurd q.1 zc71 | exact absurd q.1 zc43 | (rcases q.2 with q | q; exact zc75 (by rw [hbs]; exact q); exact absurd q (by rw [← hlt]; exact Int32.not_lt.mpr zc82)))]; exact hlt)) (by first | omega | assumption | rfl) (by omega) ls (lv_sub hl [0, 1, 2, 5, 6, 7] rfl)
            · refine lv_aload_n hx hb dX5_bestCutOff_46 rfl (lvG hl rfl) ?_
              refine lv_iload_n hx hb dX5_bestCutOff_47 rfl (lvG hl rfl) ?_
              refine lv_iload hx hb dX5_bestCutOff_48 (lvG hl rfl) ?_
              refine k_callMI0 (k_goV (rest := []) hC hK (c_X5_idealBy l g o q F n j (nI (i + 1)) (h_j) (s_vol_eq (hF 0 (by omega)) hv) (s_vr_eq hF h_j (hvr j h_j))) L_X5_X5_idealBy (⟨⟨Nat.le_of_ble_eq_true rfl, Nat.le_of_ble_eq_true rfl⟩, ⟨rfl, rfl⟩, ⟨Nat.le_of_ble_eq_true rfl, Nat.le_of_ble_eq_true rfl⟩⟩) (hP_l29.recv hK) (hP_l29) rfl hl.1 rfl (Nat.le_of_ble_eq_true rfl) dX5_bestCutOff_50) hS_l29 (fun _ h => h) (fun r_ H_4 locs_5 hq_ _ _ hS_7 => ?_)
              obtain ⟨rfl, hP_6⟩ := hq_
              rw [s_ibR_eq hF h_j]
              refine lv_iload_n hx hb dX5_bestCutOff_53 rfl (lvG hl rfl) ?_
              refine lv_isub hx hb dX5_bestCutOff_54 ?_
              refine k_callPI (k_goS (rest := []) hC hK (c_X5_size l g ((s_ibR f j (nI (i + 1))) - w)) L_X5_X5_size (⟨⟨Nat.le_of_ble_eq_true rfl, Nat.le_of_ble_eq_true rfl⟩, ⟨rfl, rfl⟩, ⟨Nat.le_of_ble_eq_true rfl, Nat.le_of_ble_eq_true rfl⟩⟩) (trivial) rfl hl.1 rfl (Nat.le_of_ble_eq_true rfl) dX5_bestCutOff_55) ?_
              refine lv_goto (tgt := 62) hx hb dX5_bestCutOff_58 (by decide) ?_
              refine lv_istore (lv' := [(6, .int (s_size ((s_ibR f j (nI (i + 1))) - w))), (5, .int (nI (i + 1))), (4, .int (lt)), (3, .int (nI b)), (0, .ref o), (1, .int (nI j)), (2, .int (w))]) hx hb dX5_bestCutOff_62 hl (by decide) rfl (fun ls hl => ?_)
              refine lv_aload_n hx hb dX5_bestCutOff_64 rfl (lvG hl rfl) ?_
              refine lv_iload_n hx hb dX5_bestCutOff_65 rfl (lvG hl rfl) ?_
              refine lv_iload hx hb dX5_bestCutOff_66 (lvG hl rfl) ?_
              refine k_callPI (k_goV (rest := []) hC hK (c_X5_canCut l g o q (s_ibF F j (nI (i + 1))) n j (nI (i + 1)) (h_j)) L_X5_X5_canCut (⟨⟨Nat.le_of_ble_eq_true rfl, Nat.le_of_ble_eq_true rfl⟩, ⟨rfl, rfl⟩, ⟨Nat.le_of_ble_eq_true rfl, Nat.le_of_ble_eq_true rfl⟩⟩) (hP_6.recv hK) (hP_6) rfl hl.1 rfl (Nat.le_of_ble_eq_true rfl) dX5_bestCutOff_68) ?_
              first | rw [s_canb hF h_j] | rw [s_canb (fun t ht => (s_ibF_lo _ _ _ ht).trans (hF t ht)) h_j]
              refine b_ifeq (tgt := 89) hC dX5_bestCutOff_71 (by decide) (fun zc71 => ?_) (fun zc71 => ?_)
              · refine lv_iconst (v := nI 0) hx hb dX5_bestCutOff_89 (by decide) ?_
                refine lv_istore (lv' := [(7, .int (nI 0)), (6, .int (s_size ((s_ibR f j (nI (i + 1))) - w))), (5, .int (nI (i + 1))), (4, .int (lt)), (3, .int (nI b)), (0, .ref o), (1, .int (nI j)), (2, .int (w))]) hx hb dX5_bestCutOff_90 hl (by decide) rfl (fun ls hl => ?_)
                refine lv_iload hx hb dX5_bestCutOff_92 (lvG hl rfl) ?_
                refine n_if_eq (tgt := 102) hC dX5_bestCutOff_94 (by decide) (by decide) (fun _ => ?_) (fun c => absurd c (by decide))
                refine lv_iload_n hx hb dX5_bestCutOff_102 rfl (lvG hl rfl) ?_
                refine lv_istore_n (lv' := [(3, .int (nI b)), (7, .int (nI 0)), (6, .int (s_size ((s_ibR f j (nI (i + 1))) - w))), (5, .int (nI (i + 1))), (4, .int (lt)), (0, .ref o), (1, .int (nI j)), (2, .int (w))]) hx hb dX5_bestCutOff_103 rfl hl (by decide) rfl (fun ls hl => ?_)
                refine lv_iload hx hb dX5_bestCutOff_104 (lvG hl rfl) ?_
                refine n_if_eq (tgt := 114) hC dX5_bestCutOff_106 (by decide) (by decide) (fun _ => ?_) (fun c => absurd c (by decide))
                refine lv_iload hx hb dX5_bestCutOff_114 (lvG hl rfl) ?_
                refine lv_istore (lv' := [(4, .int (lt)), (3, .int (nI b)), (7, .int (nI 0)), (6, .int (s_size ((s_ibR f j (nI (i + 1))) - w))), (5, .int (nI (i + 1))), (0, .ref o), (1, .int (nI j)), (2, .int (w))]) hx hb dX5_bestCutOff_116 hl (by decide) rfl (fun ls hl => ?_)
                refine n_iinc (lv' := [(5, .int (nI (i + 1 + 1))), (4, .int (lt)), (3, .int (nI b)), (7, .int (nI 0)), (6, .int (s_size ((s_ibR f j (nI (i + 1))) - w))), (0, .ref o), (1, .int (nI j)), (2, .int (w))]) hC dX5_bestCutOff_118 hl rfl (by decide) rfl (fun ls hl => ?_)
                refine lv_goto (tgt := 29) hx hb dX5_bestCutOff_121 (by decide) ?_
                exact ih_3 (i + 1) lt b (s_ibF F j (nI (i + 1))) _ _ hP_6 hS_7 (by first | omega | assumption | rfl) (by first | exact hF | exact (fun t ht => (s_ibF_lo _ _ _ ht).trans (hF t ht))) (by first | exact absurd zc43 zc71 | exact absurd zc71 zc43 | (rw [s_bc_t zc43 (Or.inl (by rw [← hbs]; exact zc75))]; done) | (rw [s_bc_t zc43 (Or.inr (by rw [← hlt]; exact Int32.not_le.mp zc82))]; done) | (rw [s_bc_f (fun q => by first | exact absurd q.1 zc71 | exact absurd q.1 zc43 | (rcases q.2 with q | q; exact zc75 (by rw [hbs]; exact q); exact absurd q (by rw [← hlt]; exact Int32.not_lt.mpr zc82)))]; exact hbs)) (by first | exact absurd zc43 zc71 | exact absurd zc71 zc43 | (rw [s_bc_t zc43 (Or.inl (by rw [← hbs]; exact zc75))]; done) | (rw [s_bc_t zc43 (Or.inr (by rw [← hlt]; exact Int32.not_le.mp zc82))]; done) | (rw [s_bc_f (fun q => by first | exact absurd q.1 zc71 | exact absurd q.1 zc43 | (rcases q.2 with q | q; exact zc75 (by rw [hbs]; exact q); exact absurd q (by rw [← hlt]; exact Int32.not_lt.mpr zc82)))]; exact hlt)) (by first | omega | assumption | rfl) (by omega) ls (lv_sub hl [0, 1, 2, 5, 6, 7] rfl)
              · refine lv_iload_n hx hb dX5_bestCutOff_74 rfl (lvG hl rfl) ?_
                refine n_if_eq (tgt := 85) hC dX5_bestCutOff_75 (by omega) (by decide) (fun zc75 => ?_) (fun zc75 => ?_)
                · refine lv_iconst (v := nI 1) hx hb dX5_bestCutOff_85 (by decide) ?_
                  refine lv_goto (tgt := 90) hx hb dX5_bestCutOff_86 (by decide) ?_
                  refine lv_istore (lv' := [(7, .int (nI 1)), (6, .int (s_size ((s_ibR f j (nI (i + 1))) - w))), (5, .int (nI (i + 1))), (4, .int (lt)), (3, .int (nI b)), (0, .ref o), (1, .int (nI j)), (2, .int (w))]) hx hb dX5_bestCutOff_90 hl (by decide) rfl (fun ls hl => ?_)
                  refine lv_iload hx hb dX5_bestCutOff_92 (lvG hl rfl) ?_
                  refine n_if_eq (tgt := 102) hC dX5_bestCutOff_94 (by decide) (by decide) (fun c => absurd c (by decide)) (fun _ => ?_)
                  refine lv_iload hx hb dX5_bestCutOff_97 (lvG hl rfl) ?_
                  refine lv_goto (tgt := 103) hx hb dX5_bestCutOff_99 (by decide) ?_
                  refine lv_istore_n (lv' := [(3, .int (nI (i + 1))), (7, .int (nI 1)), (6, .int (s_size ((s_ibR f j (nI (i + 1))) - w))), (5, .int (nI (i + 1))), (4, .int (lt)), (0, .ref o), (1, .int (nI j)), (2, .int (w))]) hx hb dX5_bestCutOff_103 rfl hl (by decide) rfl (fun ls hl => ?_)
                  refine lv_iload hx hb dX5_bestCutOff_104 (lvG hl rfl) ?_
                  refine n_if_eq (tgt := 114) hC dX5_bestCutOff_106 (by decide) (by decide) (fun c => absurd c (by decide)) (fun _ => ?_)
                  refine lv_iload hx hb dX5_bestCutOff_109 (lvG hl rfl) ?_
                  refine lv_goto (tgt := 116) hx hb dX5_bestCutOff_111 (by decide) ?_
                  refine lv_istore (lv' := [(4, .int (s_size ((s_ibR f j (nI (i + 1))) - w))), (3, .int (nI (i + 1))), (7, .int (nI 1)), (6, .int (s_size ((s_ibR f j (nI (i + 1))) - w))), (5, .int (nI (i + 1))), (0, .ref o), (1, .int (nI j)), (2, .int (w))]) hx hb dX5_bestCutOff_116 hl (by decide) rfl (fun ls hl => ?_)
                  refine n_iinc (lv' := [(5, .int (nI (i + 1 + 1))), (4, .int (s_size ((s_ibR f j (nI (i + 1))) - w))), (3, .int (nI (i + 1))), (7, .int (nI 1)), (6, .int (s_size ((s_ibR f j (nI (i + 1))) - w))), (0, .ref o), (1, .int (nI j)), (2, .int (w))]) hC dX5_bestCutOff_118 hl rfl (by decide) rfl (fun ls hl => ?_)
                  refine lv_goto (tgt := 29) hx hb dX5_bestCutOff_121 (by decide) ?_
                  exact ih_3 (i + 1) (s_size ((s_ibR f j (nI (i + 1))) - w)) (i + 1) (s_ibF F j (nI (i + 1))) _ _ hP_6 hS_7 (by first | omega | assumption | rfl) (by first | exact hF | exact (fun t ht => (s_ibF_lo _ _ _ ht).trans (hF t ht))) (by first | exact absurd zc43 zc71 | exact absurd zc71 zc43 | (rw [s_bc_t zc43 (Or.inl (by rw [← hbs]; exact zc75))]; done) | (rw [s_bc_t zc43 (Or.inr (by rw [← hlt]; exact Int32.not_le.mp zc82))]; done) | (rw [s_bc_f (fun q => by first | exact absurd q.1 zc71 | exact absurd q.1 zc43 | (rcases q.2 with q | q; exact zc75 (by rw [hbs]; exact q); exact absurd q (by rw [← hlt]; exact Int32.not_lt.mpr zc82)))]; exact hbs)) (by first | exact absurd zc43 zc71 | exact absurd zc71 zc43 | (rw [s_bc_t zc43 (Or.inl (by rw [← hbs]; exact zc75))]; done) | (rw [s_bc_t zc43 (Or.inr (by rw [← hlt]; exact Int32.not_le.mp zc82))]; done) | (rw [s_bc_f (fun q => by first | exact absurd q.1 zc71 | exact absurd q.1 zc43 | (rcases q.2 with q | q; exact zc75 (by rw [hbs]; exact q); exact absurd q (by rw [← hlt]; exact Int32.not_lt.mpr zc82)))]; exact hlt)) (by first | omega | assumption | rfl) (by omega) ls (lv_sub hl [0, 1, 2, 5, 6, 7] rfl)
                · refine lv_iload hx hb dX5_bestCutOff_78 (lvG hl rfl) ?_
                  refine lv_iload hx hb dX5_bestCutOff_80 (lvG hl rfl) ?_
                  refine lv_icmp_ge (tgt := 89) hx hb dX5_bestCutOff_82 (by decide) (fun zc82 => ?_) (fun zc82 => ?_)
                  · refine lv_iconst (v := nI 0) hx hb dX5_bestCutOff_89 (by decide) ?_
                    refine lv_istore (lv' := [(7, .int (nI 0)), (6, .int (s_size ((s_ibR f j (nI (i + 1))) - w))), (5, .int (nI (i + 1))), (4, .int (lt)), (3, .int (nI b)), (0, .ref o), (1, .int (nI j)), (2, .int (w))]) hx hb dX5_bestCutOff_90 hl (by decide) rfl (fun ls hl => ?_)
                    refine lv_iload hx hb dX5_bestCutOff_92 (lvG hl rfl) ?_
                    refine n_if_eq (tgt := 102) hC dX5_bestCutOff_94 (by decide) (by decide) (fun _ => ?_) (fun c => absurd c (by decide))
                    refine lv_iload_n hx hb dX5_bestCutOff_102 rfl (lvG hl rfl) ?_
                    refine lv_istore_n (lv' := [(3, .int (nI b)), (7, .int (nI 0)), (6, .int (s_size ((s_ibR f j (nI (i + 1))) - w))), (5, .int (nI (i + 1))), (4, .int (lt)), (0, .ref o), (1, .int (nI j)), (2, .int (w))]) hx hb dX5_bestCutOff_103 rfl hl (by decide) rfl (fun ls hl => ?_)
                    refine lv_iload hx hb dX5_bestCutOff_104 (lvG hl rfl) ?_
                    refine n_if_eq (tgt := 114) hC dX5_bestCutOff_106 (by decide) (by decide) (fun _ => ?_) (fun c => absurd c (by decide))
                    refine lv_iload hx hb dX5_bestCutOff_114 (lvG hl rfl) ?_
                    refine lv_istore (lv' := [(4, .int (lt)), (3, .int (nI b)), (7, .int (nI 0)), (6, .int (s_size ((s_ibR f j (nI (i + 1))) - w))), (5, .int (nI (i + 1))), (0, .ref o), (1, .int (nI j)), (2, .int (w))]) hx hb dX5_bestCutOff_116 hl (by decide) rfl (fun ls hl => ?_)
                    refine n_iinc (lv' := [(5, .int (nI (i + 1 + 1))), (4, .int (lt)), (3, .int (nI b)), (7, .int (nI 0)), (6, .int (s_size ((s_ibR f j (nI (i + 1))) - w))), (0, .ref o), (1, .int (nI j)), (2, .int (w))]) hC dX5_bestCutOff_118 hl rfl (by decide) rfl (fun ls hl => ?_)
                    refine lv_goto (tgt := 29) hx hb dX5_bestCutOff_121 (by decide) ?_
                    exact ih_3 (i + 1) lt b (s_ibF F j (nI (i + 1))) _ _ hP_6 hS_7 (by first | omega | assumption | rfl) (by first | exact hF | exact (fun t ht => (s_ibF_lo _ _ _ ht).trans (hF t ht))) (by first | exact absurd zc43 zc71 | exact absurd zc71 zc43 | (rw [s_bc_t zc43 (Or.inl (by rw [← hbs]; exact zc75))]; done) | (rw [s_bc_t zc43 (Or.inr (by rw [← hlt]; exact Int32.not_le.mp zc82))]; done) | (rw [s_bc_f (fun q => by first | exact absurd q.1 zc71 | exact absurd q.1 zc43 | (rcases q.2 with q | q; exact zc75 (by rw [hbs]; exact q); exact absurd q (by rw [← hlt]; exact Int32.not_lt.mpr zc82)))]; exact hbs)) (by first | exact absurd zc43 zc71 | exact absurd zc71 zc43 | (rw [s_bc_t zc43 (Or.inl (by rw [← hbs]; exact zc75))]; done) | (rw [s_bc_t zc43 (Or.inr (by rw [← hlt]; exact Int32.not_le.mp zc82))]; done) | (rw [s_bc_f (fun q => by first | exact absurd q.1 zc71 | exact absurd q.1 zc43 | (rcases q.2 with q | q; exact zc75 (by rw [hbs]; exact q); exact absurd q (by rw [← hlt]; exact Int32.not_lt.mpr zc82)))]; exact hlt)) (by first | omega | assumption | rfl) (by omega) ls (lv_sub hl [0, 1, 2, 5, 6, 7] rfl)
                  · refine lv_iconst (v := nI 1) hx hb dX5_bestCutOff_85 (by decide) ?_
                    refine lv_goto (tgt := 90) hx hb dX5_bestCutOff_86 (by decide) ?_
                    refine lv_istore (lv' := [(7, .int (nI 1)), (6, .int (s_size ((s_ibR f j (nI (i + 1))) - w))), (5, .int (nI (i + 1))), (4, .int (lt)), (3, .int (nI b)), (0, .ref o), (1, .int (nI j)), (2, .int (w))]) hx hb dX5_bestCutOff_90 hl (by decide) rfl (fun ls hl => ?_)
                    refine lv_iload hx hb dX5_bestCutOff_92 (lvG hl rfl) ?_
                    refine n_if_eq (tgt := 102) hC dX5_bestCutOff_94 (by decide) (by decide) (fun c => absurd c (by decide)) (fun _ => ?_)
                    refine lv_iload hx hb dX5_bestCutOff_97 (lvG hl rfl) ?_
                    refine lv_goto (tgt := 103) hx hb dX5_bestCutOff_99 (by decide) ?_
                    refine lv_istore_n (lv' := [(3, .int (nI (i + 1))), (7, .int (nI 1)), (6, .int (s_size ((s_ibR f j (nI (i + 1))) - w))), (5, .int (nI (i + 1))), (4, .int (lt)), (0, .ref o), (1, .int (nI j)), (2, .int (w))]) hx hb dX5_bestCutOff_103 rfl hl (by decide) rfl (fun ls hl => ?_)
                    refine lv_iload hx hb dX5_bestCutOff_104 (lvG hl rfl) ?_
                    refine n_if_eq (tgt := 114) hC dX5_bestCutOff_106 (by decide) (by decide) (fun c => absurd c (by decide)) (fun _ => ?_)
                    refine lv_iload hx hb dX5_bestCutOff_109 (lvG hl rfl) ?_
                    refine lv_goto (tgt := 116) hx hb dX5_bestCutOff_111 (by decide) ?_
                    refine lv_istore (lv' := [(4, .int (s_size ((s_ibR f j (nI (i + 1))) - w))), (3, .int (nI (i + 1))), (7, .int (nI 1)), (6, .int (s_size ((s_ibR f j (nI (i + 1))) - w))), (5, .int (nI (i + 1))), (0, .ref o), (1, .int (nI j)), (2, .int (w))]) hx hb dX5_bestCutOff_116 hl (by decide) rfl (fun ls hl => ?_)
                    refine n_iinc (lv' := [(5, .int (nI (i + 1 + 1))), (4, .int (s_size ((s_ibR f j (nI (i + 1))) - w))), (3, .int (nI (i + 1))), (7, .int (nI 1)), (6, .int (s_size ((s_ibR f j (nI (i + 1))) - w))), (0, .ref o), (1, .int (nI j)), (2, .int (w))]) hC dX5_bestCutOff_118 hl rfl (by decide) rfl (fun ls hl => ?_)
                    refine lv_goto (tgt := 29) hx hb dX5_bestCutOff_121 (by decide) ?_
                    exact ih_3 (i + 1) (s_size ((s_ibR f j (nI (i + 1))) - w)) (i + 1) (s_ibF F j (nI (i + 1))) _ _ hP_6 hS_7 (by first | omega | assumption | rfl) (by first | exact hF | exact (fun t ht => (s_ibF_lo _ _ _ ht).trans (hF t ht))) (by first | exact absurd zc43 zc71 | exact absurd zc71 zc43 | (rw [s_bc_t zc43 (Or.inl (by rw [← hbs]; exact zc75))]; done) | (rw [s_bc_t zc43 (Or.inr (by rw [← hlt]; exact Int32.not_le.mp zc82))]; done) | (rw [s_bc_f (fun q => by first | exact absurd q.1 zc71 | exact absurd q.1 zc43 | (rcases q.2 with q | q; exact zc75 (by rw [hbs]; exact q); exact absurd q (by rw [← hlt]; exact Int32.not_lt.mpr zc82)))]; exact hbs)) (by first | exact absurd zc43 zc71 | exact absurd zc71 zc43 | (rw [s_bc_t zc43 (Or.inl (by rw [← hbs]; exact zc75))]; done) | (rw [s_bc_t zc43 (Or.inr (by rw [← hlt]; exact Int32.not_le.mp zc82))]; done) | (rw [s_bc_f (fun q => by first | exact absurd q.1 zc71 | exact absurd q.1 zc43 | (rcases q.2 with q | q; exact zc75 (by rw [hbs]; exact q); exact absurd q (by rw [← hlt]; exact Int32.not_lt.mpr zc82)))]; exact hlt)) (by first | omega | assumption | rfl) (by omega) ls (lv_sub hl [0, 1, 2, 5, 6, 7] rfl)
      exact key_1 ((18 - 0) + 1) 0 (nI 0) 0 f _ _ hP hS (by first | rfl | omega | assumption) (fun _ _ => rfl) (rfl) (rfl) (by first | rfl | omega | assumption) (Nat.lt_succ_self _) ls (lv_sub hl [0, 1, 2, 3, 4, 5] rfl)
    · refine lv_ldc (v := (-2000000001 : Int32)) hx hb hown (hts _ w_669) dX5_bestCutOff_18 ?_
      exact k_iretM hC hr hlk hS dX5_bestCutOff_20 (by unfold s_bcoR; rw [if_neg (by grind)]; exact ⟨rfl, hP.q⟩)
