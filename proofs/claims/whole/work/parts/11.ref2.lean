def s_seR (f : Nat → Int32) (n : Nat) (b t : Int32) : Int32 := if (nI 1 ≤ b ∧ b ≤ nI 100) ∧ (nI 1 ≤ t ∧ t ≤ nI 50) then nI 100 * s_rec f n 6 + s_rec f n 7 else cINV
def s_seF (f : Nat → Int32) (n : Nat) (b t : Int32) : Nat → Int32 := if (nI 1 ≤ b ∧ b ≤ nI 100) ∧ (nI 1 ≤ t ∧ t ≤ nI 50) then upd (upd (s_rec f n) 6 b) 7 t else f
def s_seN (n : Nat) (b t : Int32) : Nat := if (nI 1 ≤ b ∧ b ≤ nI 100) ∧ (nI 1 ≤ t ∧ t ≤ nI 50) then s_recn n else n
set_option maxHeartbeats 4000000 in
set_option maxRecDepth 100000 in
theorem c_X5_setFinding (l : Launch) (g : kG) (o : Nat) (q : Nat) (f : Nat → Int32) (n : Nat) (b : Int32) (t : Int32) : MI l yX5_setFinding cX5_setFinding 4 (some .int) (rr 2 44) [.ref o, .int (b), .int (t)] ((RP g o q f n)) g 0 0 (RA o q) (fun r H1 => r = s_seR f n b t ∧ RP g o q (s_seF f n b t) (s_seN n b t) H1) := by
  refine kOf (by decide) (Nat.le_of_ble_eq_true rfl) (fun p e s m below meth c ls hC hr hlk hin hK hP hl => ?_)
  have hx := hC.1
  have hb := hC.2.1
  have hml := hC.2.2.1
  have hown := hC.2.2.2.1
  have hts := hC.2.2.2.2
  have hl : lv_has ls 4 [(0, .ref o), (1, .int (b)), (2, .int (t))] := hl
  have hS : va_S (RA o q) s.heap s.heap [] := va_S.rf
  refine lv_iload_n hx hb dX5_setFinding_0 rfl (lvG hl rfl) ?_
  refine lv_iconst (v := nI 1) hx hb dX5_setFinding_1 (by decide) ?_
  refine lv_bipush (v := nI 100) hx hb dX5_setFinding_2 (by decide) ?_
  refine k_callPI (k_goS (rest := []) hC hK (c_X5_in l g b (nI 1) (nI 100)) L_X5_X5_in (⟨⟨Nat.le_of_ble_eq_true rfl, Nat.le_of_ble_eq_true rfl⟩, ⟨rfl, rfl⟩, ⟨Nat.le_of_ble_eq_true rfl, Nat.le_of_ble_eq_true rfl⟩⟩) (trivial) rfl hl.1 rfl (Nat.le_of_ble_eq_true rfl) dX5_setFinding_4) ?_
  refine b_ifeq (tgt := 20) hC dX5_setFinding_7 (by decide) (fun zc7 => ?_) (fun zc7 => ?_)
  · refine lv_ldc (v := (-2000000001 : Int32)) hx hb hown (hts _ w_669) dX5_setFinding_20 ?_
    exact k_iretM hC hr hlk hS dX5_setFinding_22 (⟨by first | rfl | grind [s_seR, s_seF, s_seN] | grind [nI, s_seR, s_seF, s_seN], by first | exact hP | grind [s_seR, s_seF, s_seN]⟩)
  · refine lv_iload_n hx hb dX5_setFinding_10 rfl (lvG hl rfl) ?_
    refine lv_iconst (v := nI 1) hx hb dX5_setFinding_11 (by decide) ?_
    refine lv_bipush (v := nI 50) hx hb dX5_setFinding_12 (by decide) ?_
    refine k_callPI (k_goS (rest := []) hC hK (c_X5_in l g t (nI 1) (nI 50)) L_X5_X5_in (⟨⟨Nat.le_of_ble_eq_true rfl, Nat.le_of_ble_eq_true rfl⟩, ⟨rfl, rfl⟩, ⟨Nat.le_of_ble_eq_true rfl, Nat.le_of_ble_eq_true rfl⟩⟩) (trivial) rfl hl.1 rfl (Nat.le_of_ble_eq_true rfl) dX5_setFinding_14) ?_
    refine b_ifne (tgt := 23) hC dX5_setFinding_17 (by decide) (fun zc17 => ?_) (fun zc17 => ?_)
    · refine lv_aload_n hx hb dX5_setFinding_23 rfl (lvG hl rfl) ?_
      refine k_callMV0 (k_goV (rest := []) hC hK (c_X5_record l g o q f n) L_X5_X5_record (⟨⟨Nat.le_of_ble_eq_true rfl, Nat.le_of_ble_eq_true rfl⟩, ⟨rfl, rfl⟩, ⟨Nat.le_of_ble_eq_true rfl, Nat.le_of_ble_eq_true rfl⟩⟩) (hP.recv hK) (hP) rfl hl.1 rfl (Nat.le_of_ble_eq_true rfl) dX5_setFinding_24) hS (fun _ h => h) (fun H_1 locs_2 hP_3 _ _ hS_4 => ?_)
      refine lv_bipush (v := nI 100) hx hb dX5_setFinding_27 (by decide) ?_
      refine lv_aload_n hx hb dX5_setFinding_29 rfl (lvG hl rfl) ?_
      refine r_row hC hK hP_3 dX5_setFinding_30 ?_
      refine lv_bipush (v := nI 6) hx hb dX5_setFinding_33 (by decide) ?_
      refine r_ald (k := 6) hC hK hP_3 (by omega) dX5_setFinding_35 ?_
      refine lv_imul hx hb dX5_setFinding_36 ?_
      refine lv_aload_n hx hb dX5_setFinding_37 rfl (lvG hl rfl) ?_
      refine r_row hC hK hP_3 dX5_setFinding_38 ?_
      refine lv_bipush (v := nI 7) hx hb dX5_setFinding_41 (by decide) ?_
      refine r_ald (k := 7) hC hK hP_3 (by omega) dX5_setFinding_43 ?_
      refine lv_iadd hx hb dX5_setFinding_44 ?_
      refine lv_istore_n (lv' := [(3, .int (((nI 100) * ((s_rec f n) 6)) + ((s_rec f n) 7))), (0, .ref o), (1, .int (b)), (2, .int (t))]) hx hb dX5_setFinding_45 rfl hl (by decide) rfl (fun ls hl => ?_)
      refine lv_aload_n hx hb dX5_setFinding_46 rfl (lvG hl rfl) ?_
      refine r_row hC hK hP_3 dX5_setFinding_47 ?_
      refine lv_bipush (v := nI 6) hx hb dX5_setFinding_50 (by decide) ?_
      refine lv_iload_n hx hb dX5_setFinding_52 rfl (lvG hl rfl) ?_
      refine r_ast (k := 6) hC hK hP_3 hS_4 (by omega) dX5_setFinding_53 (fun H_5 locs_6 hP_7 hS_8 => ?_)
      refine lv_aload_n hx hb dX5_setFinding_54 rfl (lvG hl rfl) ?_
      refine r_row hC hK hP_7 dX5_setFinding_55 ?_
      refine lv_bipush (v := nI 7) hx hb dX5_setFinding_58 (by decide) ?_
      refine lv_iload_n hx hb dX5_setFinding_60 rfl (lvG hl rfl) ?_
      refine r_ast (k := 7) hC hK hP_7 hS_8 (by omega) dX5_setFinding_61 (fun H_9 locs_10 hP_11 hS_12 => ?_)
      refine lv_iload_n hx hb dX5_setFinding_62 rfl (lvG hl rfl) ?_
      exact k_iretM hC hr hlk hS_12 dX5_setFinding_63 (⟨by first | rfl | grind [s_seR, s_seF, s_seN] | grind [nI, s_seR, s_seF, s_seN], by first | exact hP_11 | grind [s_seR, s_seF, s_seN]⟩)
    · refine lv_ldc (v := (-2000000001 : Int32)) hx hb hown (hts _ w_669) dX5_setFinding_20 ?_
      exact k_iretM hC hr hlk hS dX5_setFinding_22 (⟨by first | rfl | grind [s_seR, s_seF, s_seN] | grind [nI, s_seR, s_seF, s_seN], by first | exact hP | grind [s_seR, s_seF, s_seN]⟩)
abbrev s_okV (en a c r m : Int32) : Prop := ((nI 0 ≤ en ∧ en ≤ nI 1) ∧ (nI 0 ≤ a ∧ a ≤ nI 5) ∧ (nI 1 ≤ c ∧ c ≤ nI 18) ∧ (nI 2 ≤ r ∧ r ≤ nI 20) ∧ (nI 0 ≤ m ∧ m ≤ nI 19)) ∧ a < c ∧ c < r
def s_svR (en a c r m : Int32) : Int32 := if s_okV en a c r m then nI 0 else cINV
def s_svU (f : Nat → Int32) (j : Nat) (a c r m : Int32) : Nat → Int32 := upd (upd (upd (upd f (8 + 4 * j) a) (8 + 4 * j + 1) c) (8 + 4 * j + 2) r) (8 + 4 * j + 3) m
def s_svF (f : Nat → Int32) (n : Nat) (en a c r m : Int32) : Nat → Int32 := if s_okV en a c r m then s_svU (s_rec f n) en.toNatClampNeg a c r m else f
def s_svN (n : Nat) (en a c r m : Int32) : Nat := if s_okV en a c r m then s_recn n else n
set_option maxHeartbeats 4000000 in
set_option maxRecDepth 100000 in
theorem c_X5_setValves (l : Launch) (g : kG) (o : Nat) (q : Nat) (f : Nat → Int32) (n : Nat) (en : Int32) (va : Int32) (vc : Int32) (vr : Int32) (vm : Int32) : MI l yX5_setValves cX5_setValves 7 (some .int) (rr 2 44) [.ref o, .int (en), .int (va), .int (vc), .int (vr), .int (vm)] ((RP g o q f n)) g 0 0 (RA o q) (fun r H1 => r = s_svR en va vc vr vm ∧ RP g o q (s_svF f n en va vc vr vm) (s_svN n en va vc vr vm) H1) := by
  refine kOf (by decide) (Nat.le_of_ble_eq_true rfl) (fun p e s m below meth c ls hC hr hlk hin hK hP hl => ?_)
  have hx := hC.1
  have hb := hC.2.1
  have hml := hC.2.2.1
  have hown := hC.2.2.2.1
  have hts := hC.2.2.2.2
  have hl : lv_has ls 7 [(0, .ref o), (1, .int (en)), (2, .int (va)), (3, .int (vc)), (4, .int (vr)), (5, .int (vm))] := hl
  have hS : va_S (RA o q) s.heap s.heap [] := va_S.rf
  refine lv_iload_n hx hb dX5_setValves_0 rfl (lvG hl rfl) ?_
  refine k_callPI (k_goS (rest := []) hC hK (c_X5_isEnd l g en) L_X5_X5_isEnd (⟨⟨Nat.le_of_ble_eq_true rfl, Nat.le_of_ble_eq_true rfl⟩, ⟨rfl, rfl⟩, ⟨Nat.le_of_ble_eq_true rfl, Nat.le_of_ble_eq_true rfl⟩⟩) (trivial) rfl hl.1 rfl (Nat.le_of_ble_eq_true rfl) dX5_setValves_1) ?_
  refine b_ifeq (tgt := 52) hC dX5_setValves_4 (by decide) (fun zc4 => ?_) (fun zc4 => ?_)
  · refine lv_iconst (v := nI 0) hx hb dX5_setValves_52 (by decide) ?_
    refine lv_istore (lv' := [(6, .int (nI 0)), (0, .ref o), (1, .int (en)), (2, .int (va)), (3, .int (vc)), (4, .int (vr)), (5, .int (vm))]) hx hb dX5_setValves_53 hl (by decide) rfl (fun ls hl => ?_)
    refine lv_iload hx hb dX5_setValves_55 (lvG hl rfl) ?_
    refine n_if_eq (tgt := 71) hC dX5_setValves_57 (by decide) (by decide) (fun _ => ?_) (fun c => absurd c (by decide))
    refine lv_ldc (v := (-2000000001 : Int32)) hx hb hown (hts _ w_669) dX5_setValves_71 ?_
    exact k_iretM hC hr hlk hS dX5_setValves_73 (by have hno : ¬ s_okV en va vc vr vm := (by grind); unfold s_svR s_svF s_svN; rw [if_neg hno, if_neg hno, if_neg hno]; exact ⟨rfl, hP⟩)
  · refine lv_iload_n hx hb dX5_setValves_7 rfl (lvG hl rfl) ?_
    refine lv_iconst (v := nI 0) hx hb dX5_setValves_8 (by decide) ?_
    refine lv_iconst (v := nI 5) hx hb dX5_setValves_9 (by decide) ?_
    refine k_callPI (k_goS (rest := []) hC hK (c_X5_in l g va (nI 0) (nI 5)) L_X5_X5_in (⟨⟨Nat.le_of_ble_eq_true rfl, Nat.le_of_ble_eq_true rfl⟩, ⟨rfl, rfl⟩, ⟨Nat.le_of_ble_eq_true rfl, Nat.le_of_ble_eq_true rfl⟩⟩) (trivial) rfl hl.1 rfl (Nat.le_of_ble_eq_true rfl) dX5_setValves_10) ?_
    refine b_ifeq (tgt := 52) hC dX5_setValves_13 (by decide) (fun zc13 => ?_) (fun zc13 => ?_)
    · refine lv_iconst (v := nI 0) hx hb dX5_setValves_52 (by decide) ?_
      refine lv_istore (lv' := [(6, .int (nI 0)), (0, .ref o), (1, .int (en)), (2, .int (va)), (3, .int (vc)), (4, .int (vr)), (5, .int (vm))]) hx hb dX5_setValves_53 hl (by decide) rfl (fun ls hl => ?_)
      refine lv_iload hx hb dX5_setValves_55 (lvG hl rfl) ?_
      refine n_if_eq (tgt := 71) hC dX5_setValves_57 (by decide) (by decide) (fun _ => ?_) (fun c => absurd c (by decide))
      refine lv_ldc (v := (-2000000001 : Int32)) hx hb hown (hts _ w_669) dX5_setValves_71 ?_
      exact k_iretM hC hr hlk hS dX5_setValves_73 (by have hno : ¬ s_okV en va vc vr vm := (by grind); unfold s_svR s_svF s_svN; rw [if_neg hno, if_neg hno, if_neg hno]; exact ⟨rfl, hP⟩)
    · refine lv_iload_n hx hb dX5_setValves_16 rfl (lvG hl rfl) ?_
      refine lv_iconst (v := nI 1) hx hb dX5_setValves_17 (by decide) ?_
      refine lv_bipush (v := nI 18) hx hb dX5_setValves_18 (by decide) ?_
      refine k_callPI (k_goS (rest := []) hC hK (c_X5_in l g vc (nI 1) (nI 18)) L_X5_X5_in (⟨⟨Nat.le_of_ble_eq_true rfl, Nat.le_of_ble_eq_true rfl⟩, ⟨rfl, rfl⟩, ⟨Nat.le_of_ble_eq_true rfl, Nat.le_of_ble_eq_true rfl⟩⟩) (trivial) rfl hl.1 rfl (Nat.le_of_ble_eq_true rfl) dX5_setValves_20) ?_
      refine b_ifeq (tgt := 52) hC dX5_setValves_23 (by decide) (fun zc23 => ?_) (fun zc23 => ?_)
      · refine lv_iconst (v := nI 0) hx hb dX5_setValves_52 (by decide) ?_
        refine lv_istore (lv' := [(6, .int (nI 0)), (0, .ref o), (1, .int (en)), (2, .int (va)), (3, .int (vc)), (4, .int (vr)), (5, .int (vm))]) hx hb dX5_setValves_53 hl (by decide) rfl (fun ls hl => ?_)
        refine lv_iload hx hb dX5_setValves_55 (lvG hl rfl) ?_
        refine n_if_eq (tgt := 71) hC dX5_setValves_57 (by decide) (by decide) (fun _ => ?_) (fun c => absurd c (by decide))
        refine lv_ldc (v := (-2000000001 : Int32)) hx hb hown (hts _ w_669) dX5_setValves_71 ?_
        exact k_iretM hC hr hlk hS dX5_setValves_73 (by have hno : ¬ s_okV en va vc vr vm := (by grind); unfold s_svR s_svF s_svN; rw [if_neg hno, if_neg hno, if_neg hno]; exact ⟨rfl, hP⟩)
      · refine lv_iload hx hb dX5_setValves_26 (lvG hl rfl) ?_
        refine lv_iconst (v := nI 2) hx hb dX5_setValves_28 (by decide) ?_
        refine lv_bipush (v := nI 20) hx hb dX5_setValves_29 (by decide) ?_
        refine k_callPI (k_goS (rest := []) hC hK (c_X5_in l g vr (nI 2) (nI 20)) L_X5_X5_in (⟨⟨Nat.le_of_ble_eq_true rfl, Nat.le_of_ble_eq_true rfl⟩, ⟨rfl, rfl⟩, ⟨Nat.le_of_ble_eq_true rfl, Nat.le_of_ble_eq_true rfl⟩⟩) (trivial) rfl hl.1 rfl (Nat.le_of_ble_eq_true rfl) dX5_setValves_31) ?_
        refine b_ifeq (tgt := 52) hC dX5_setValves_34 (by decide) (fun zc34 => ?_) (fun zc34 => ?_)
        · refine lv_iconst (v := nI 0) hx hb dX5_setValves_52 (by decide) ?_
          refine lv_istore (lv' := [(6, .int (nI 0)), (0, .ref o), (1, .int (en)), (2, .int (va)), (3, .int (vc)), (4, .int (vr)), (5, .int (vm))]) hx hb dX5_setValves_53 hl (by decide) rfl (fun ls hl => ?_)
          refine lv_iload hx hb dX5_setValves_55 (lvG hl rfl) ?_
          refine n_if_eq (tgt := 71) hC dX5_setValves_57 (by decide) (by decide) (fun _ => ?_) (fun c => absurd c (by decide))
          refine lv_ldc (v := (-2000000001 : Int32)) hx hb hown (hts _ w_669) dX5_setValves_71 ?_
          exact k_iretM hC hr hlk hS dX5_setValves_73 (by have hno : ¬ s_okV en va vc vr vm := (by grind); unfold s_svR s_svF s_svN; rw [if_neg hno, if_neg hno, if_neg hno]; exact ⟨rfl, hP⟩)
        · refine lv_iload hx hb dX5_setValves_37 (lvG hl rfl) ?_
          refine lv_iconst (v := nI 0) hx hb dX5_setValves_39 (by decide) ?_
          refine lv_bipush (v := nI 19) hx hb dX5_setValves_40 (by decide) ?_
          refine k_callPI (k_goS (rest := []) hC hK (c_X5_in l g vm (nI 0) (nI 19)) L_X5_X5_in (⟨⟨Nat.le_of_ble_eq_true rfl, Nat.le_of_ble_eq_true rfl⟩, ⟨rfl, rfl⟩, ⟨Nat.le_of_ble_eq_true rfl, Nat.le_of_ble_eq_true rfl⟩⟩) (trivial) rfl hl.1 rfl (Nat.le_of_ble_eq_true rfl) dX5_setValves_42) ?_
          refine b_ifeq (tgt := 52) hC dX5_setValves_45 (by decide) (fun zc45 => ?_) (fun zc45 => ?_)
          · refine lv_iconst (v := nI 0) hx hb dX5_setValves_52 (by decide) ?_
            refine lv_istore (lv' := [(6, .int (nI 0)), (0, .ref o), (1, .int (en)), (2, .int (va)), (3, .int (vc)), (4, .int (vr)), (5, .int (vm))]) hx hb dX5_setValves_53 hl (by decide) rfl (fun ls hl => ?_)
            refine lv_iload hx hb dX5_setValves_55 (lvG hl rfl) ?_
            refine n_if_eq (tgt := 71) hC dX5_setValves_57 (by decide) (by decide) (fun _ => ?_) (fun c => absurd c (by decide))
            refine lv_ldc (v := (-2000000001 : Int32)) hx hb hown (hts _ w_669) dX5_setValves_71 ?_
            exact k_iretM hC hr hlk hS dX5_setValves_73 (by have hno : ¬ s_okV en va vc vr vm := (by grind); unfold s_svR s_svF s_svN; rw [if_neg hno, if_neg hno, if_neg hno]; exact ⟨rfl, hP⟩)
          · refine lv_iconst (v := nI 1) hx hb dX5_setValves_48 (by decide) ?_
            refine lv_goto (tgt := 53) hx hb dX5_setValves_49 (by decide) ?_
            refine lv_istore (lv' := [(6, .int (nI 1)), (0, .ref o), (1, .int (en)), (2, .int (va)), (3, .int (vc)), (4, .int (vr)), (5, .int (vm))]) hx hb dX5_setValves_53 hl (by decide) rfl (fun ls hl => ?_)
            refine lv_iload hx hb dX5_setValves_55 (lvG hl rfl) ?_
            refine n_if_eq (tgt := 71) hC dX5_setValves_57 (by decide) (by decide) (fun c => absurd c (by decide)) (fun _ => ?_)
            refine lv_iload_n hx hb dX5_setValves_60 rfl (lvG hl rfl) ?_
            refine lv_iload_n hx hb dX5_setValves_61 rfl (lvG hl rfl) ?_
            refine lv_icmp_le (tgt := 71) hx hb dX5_setValves_62 (by decide) (fun zc62 => ?_) (fun zc62 => ?_)
            · refine lv_ldc (v := (-2000000001 : Int32)) hx hb hown (hts _ w_669) dX5_setValves_71 ?_
              exact k_iretM hC hr hlk hS dX5_setValves_73 (by have hno : ¬ s_okV en va vc vr vm := (by grind); unfold s_svR s_svF s_svN; rw [if_neg hno, if_neg hno, if_neg hno]; exact ⟨rfl, hP⟩)
            · refine lv_iload hx hb dX5_setValves_65 (lvG hl rfl) ?_
              refine lv_iload_n hx hb dX5_setValves_67 rfl (lvG hl rfl) ?_
              refine lv_icmp_gt (tgt := 74) hx hb dX5_setValves_68 (by decide) (fun zc68 => ?_) (fun zc68 => ?_)
              · obtain ⟨j, h_j, ev_j⟩ := in_nat (by decide) (zc4)
                have e_j : (en).toNatClampNeg = j := by rw [ev_j]; exact nI_clamp (by omega)
                have hl : lv_has ls 7 [(6, .int (nI 1)), (0, .ref o), (1, .int (nI j)), (2, .int (va)), (3, .int (vc)), (4, .int (vr)), (5, .int (vm))] := lv_eq hl (by rw [ev_j])
                refine lv_aload_n hx hb dX5_setValves_74 rfl (lvG hl rfl) ?_
                refine k_callMV0 (k_goV (rest := []) hC hK (c_X5_record l g o q f n) L_X5_X5_record (⟨⟨Nat.le_of_ble_eq_true rfl, Nat.le_of_ble_eq_true rfl⟩, ⟨rfl, rfl⟩, ⟨Nat.le_of_ble_eq_true rfl, Nat.le_of_ble_eq_true rfl⟩⟩) (hP.recv hK) (hP) rfl hl.1 rfl (Nat.le_of_ble_eq_true rfl) dX5_setValves_75) hS (fun _ h => h) (fun H_1 locs_2 hP_3 _ _ hS_4 => ?_)
                refine lv_aload_n hx hb dX5_setValves_78 rfl (lvG hl rfl) ?_
                refine r_row hC hK hP_3 dX5_setValves_79 ?_
                refine lv_bipush (v := nI 8) hx hb dX5_setValves_82 (by decide) ?_
                refine lv_iconst (v := nI 4) hx hb dX5_setValves_84 (by decide) ?_
                refine lv_iload_n hx hb dX5_setValves_85 rfl (lvG hl rfl) ?_
                refine n_imul hC dX5_setValves_86 ?_
                refine n_iadd hC dX5_setValves_87 ?_
                refine lv_iload_n hx hb dX5_setValves_88 rfl (lvG hl rfl) ?_
                refine r_ast (k := 8 + (4 * j)) hC hK hP_3 hS_4 (by omega) dX5_setValves_89 (fun H_5 locs_6 hP_7 hS_8 => ?_)
                refine lv_aload_n hx hb dX5_setValves_90 rfl (lvG hl rfl) ?_
                refine r_row hC hK hP_7 dX5_setValves_91 ?_
                refine lv_bipush (v := nI 8) hx hb dX5_setValves_94 (by decide) ?_
                refine lv_iconst (v := nI 4) hx hb dX5_setValves_96 (by decide) ?_
                refine lv_iload_n hx hb dX5_setValves_97 rfl (lvG hl rfl) ?_
                refine n_imul hC dX5_setValves_98 ?_
                refine n_iadd hC dX5_setValves_99 ?_
                refine lv_iconst (v := nI 1) hx hb dX5_setValves_100 (by decide) ?_
                refine n_iadd hC dX5_setValves_101 ?_
                refine lv_iload_n hx hb dX5_setValves_102 rfl (lvG hl rfl) ?_
                refine r_ast (k := 8 + (4 * j) + 1) hC hK hP_7 hS_8 (by omega) dX5_setValves_103 (fun H_9 locs_10 hP_11 hS_12 => ?_)
                refine lv_aload_n hx hb dX5_setValves_104 rfl (lvG hl rfl) ?_
                refine r_row hC hK hP_11 dX5_setValves_105 ?_
                refine lv_bipush (v := nI 8) hx hb dX5_setValves_108 (by decide) ?_
                refine lv_iconst (v := nI 4) hx hb dX5_setValves_110 (by decide) ?_
                refine lv_iload_n hx hb dX5_setValves_111 rfl (lvG hl rfl) ?_
                refine n_imul hC dX5_setValves_112 ?_
                refine n_iadd hC dX5_setValves_113 ?_
                refine lv_iconst (v := nI 2) hx hb dX5_setValves_114 (by decide) ?_
                refine n_iadd hC dX5_setValves_115 ?_
                refine lv_iload hx hb dX5_setValves_116 (lvG hl rfl) ?_
                refine r_ast (k := 8 + (4 * j) + 2) hC hK hP_11 hS_12 (by omega) dX5_setValves_118 (fun H_13 locs_14 hP_15 hS_16 => ?_)
                refine lv_aload_n hx hb dX5_setValves_119 rfl (lvG hl rfl) ?_
                refine r_row hC hK hP_15 dX5_setValves_120 ?_
                refine lv_bipush (v := nI 8) hx hb dX5_setValves_123 (by decide) ?_
                refine lv_iconst (v := nI 4) hx hb dX5_setValves_125 (by decide) ?_
                refine lv_iload_n hx hb dX5_setValves_126 rfl (lvG hl rfl) ?_
                refine n_imul hC dX5_setValves_127 ?_
                refine n_iadd hC dX5_setValves_128 ?_
                refine lv_iconst (v := nI 3) hx hb dX5_setValves_129 (by decide) ?_
                refine n_iadd hC dX5_setValves_130 ?_
                refine lv_iload hx hb dX5_setValves_131 (lvG hl rfl) ?_
                refine r_ast (k := 8 + (4 * j) + 3) hC hK hP_15 hS_16 (by omega) dX5_setValves_133 (fun H_17 locs_18 hP_19 hS_20 => ?_)
                refine lv_iconst (v := nI 0) hx hb dX5_setValves_134 (by decide) ?_
                exact k_iretM hC hr hlk hS_20 dX5_setValves_135 (by have hok : s_okV en va vc vr vm := (by grind); unfold s_svR s_svF s_svN; rw [if_pos hok, if_pos hok, if_pos hok, e_j]; exact ⟨rfl, hP_19⟩)
              · refine lv_ldc (v := (-2000000001 : Int32)) hx hb hown (hts _ w_669) dX5_setValves_71 ?_
                exact k_iretM hC hr hlk hS dX5_setValves_73 (by have hno : ¬ s_okV en va vc vr vm := (by grind); unfold s_svR s_svF s_svN; rw [if_neg hno, if_neg hno, if_neg hno]; exact ⟨rfl, hP⟩)
def s_vaR (f : Nat → Int32) (en ev : Int32) : Int32 := if (nI 0 ≤ en ∧ en ≤ nI 1) ∧ (nI 0 ≤ ev ∧ ev ≤ nI 3) then f (8 + 4 * en.toNatClampNeg + ev.toNatClampNeg) else cINV
set_option maxHeartbeats 4000000 in
set_option maxRecDepth 100000 in
theorem c_X5_valve (l : Launch) (g : kG) (o : Nat) (q : Nat) (f : Nat → Int32) (n : Nat) (en : Int32) (ev : Int32) : PI l yX5_valve cX5_valve 3 (some .int) (rr 2 42) [.ref o, .int (en), .int (ev)] ((RP g o q f n)) g (s_vaR f en ev) := by
  refine kOf (by decide) (Nat.le_of_ble_eq_true rfl) (fun p e s m below meth c ls hC hr hlk hin hK hP hl => ?_)
  have hx := hC.1
  have hb := hC.2.1
  have hml := hC.2.2.1
  have hown := hC.2.2.2.1
  have hts := hC.2.2.2.2
  have hl : lv_has ls 3 [(0, .ref o), (1, .int (en)), (2, .int (ev))] := hl
  refine lv_iload_n hx hb dX5_valve_0 rfl (lvG hl rfl) ?_
  refine k_callPI (k_goS (rest := []) hC hK (c_X5_isEnd l g en) L_X5_X5_isEnd (⟨⟨Nat.le_of_ble_eq_true rfl, Nat.le_of_ble_eq_true rfl⟩, ⟨rfl, rfl⟩, ⟨Nat.le_of_ble_eq_true rfl, Nat.le_of_ble_eq_true rfl⟩⟩) (trivial) rfl hl.1 rfl (Nat.le_of_ble_eq_true rfl) dX5_valve_1) ?_
  refine b_ifeq (tgt := 32) hC dX5_valve_4 (by decide) (fun zc4 => ?_) (fun zc4 => ?_)
  · refine lv_ldc (v := (-2000000001 : Int32)) hx hb hown (hts _ w_669) dX5_valve_32 ?_
    exact k_iret hC hr hlk dX5_valve_34 (by unfold s_vaR; first | (rw [if_pos ⟨zc4, zc13⟩, e_j, e_k]) | (rw [if_neg (by grind)]))
  · refine lv_iload_n hx hb dX5_valve_7 rfl (lvG hl rfl) ?_
    refine lv_iconst (v := nI 0) hx hb dX5_valve_8 (by decide) ?_
    refine lv_iconst (v := nI 3) hx hb dX5_valve_9 (by decide) ?_
    refine k_callPI (k_goS (rest := []) hC hK (c_X5_in l g ev (nI 0) (nI 3)) L_X5_X5_in (⟨⟨Nat.le_of_ble_eq_true rfl, Nat.le_of_ble_eq_true rfl⟩, ⟨rfl, rfl⟩, ⟨Nat.le_of_ble_eq_true rfl, Nat.le_of_ble_eq_true rfl⟩⟩) (trivial) rfl hl.1 rfl (Nat.le_of_ble_eq_true rfl) dX5_valve_10) ?_
    refine b_ifeq (tgt := 32) hC dX5_valve_13 (by decide) (fun zc13 => ?_) (fun zc13 => ?_)
    · refine lv_ldc (v := (-2000000001 : Int32)) hx hb hown (hts _ w_669) dX5_valve_32 ?_
      exact k_iret hC hr hlk dX5_valve_34 (by unfold s_vaR; first | (rw [if_pos ⟨zc4, zc13⟩, e_j, e_k]) | (rw [if_neg (by grind)]))
    · obtain ⟨j, h_j, ev_j⟩ := in_nat (by decide) (zc4)
      have e_j : (en).toNatClampNeg = j := by rw [ev_j]; exact nI_clamp (by omega)
      have hl : lv_has ls 3 [(0, .ref o), (1, .int (nI j)), (2, .int (ev))] := lv_eq hl (by rw [ev_j])
      obtain ⟨k, h_k, ev_k⟩ := in_nat (by decide) (zc13)
      have e_k : (ev).toNatClampNeg = k := by rw [ev_k]; exact nI_clamp (by omega)
      have hl : lv_has ls 3 [(0, .ref o), (1, .int (nI j)), (2, .int (nI k))] := lv_eq hl (by rw [ev_k])
      refine lv_aload_n hx hb dX5_valve_16 rfl (lvG hl rfl) ?_
      refine r_row hC hK hP dX5_valve_17 ?_
      refine lv_bipush (v := nI 8) hx hb dX5_valve_20 (by decide) ?_
      refine lv_iconst (v := nI 4) hx hb dX5_valve_22 (by decide) ?_
      refine lv_iload_n hx hb dX5_valve_23 rfl (lvG hl rfl) ?_
      refine n_imul hC dX5_valve_24 ?_
      refine n_iadd hC dX5_valve_25 ?_
      refine lv_iload_n hx hb dX5_valve_26 rfl (lvG hl rfl) ?_
      refine n_iadd hC dX5_valve_27 ?_
      refine r_ald (k := 8 + (4 * j) + k) hC hK hP (by omega) dX5_valve_28 ?_
      refine lv_goto (tgt := 34) hx hb dX5_valve_29 (by decide) ?_
      exact k_iret hC hr hlk dX5_valve_34 (by unfold s_vaR; first | (rw [if_pos ⟨zc4, zc13⟩, e_j, e_k]) | (rw [if_neg (by grind)]))
def s_bcU (f : Nat → Int32) (en sp : Int32) : Nat → Int32 := s_fl (upd (upd (upd f 16 (nI 1)) 17 en) 18 sp) 19 (fun _ => nI 0) 42
abbrev s_okB (en sp : Int32) : Prop := (nI 0 ≤ en ∧ en ≤ nI 1) ∧ (nI 1 ≤ sp ∧ sp ≤ nI 600)
def s_bcR (f : Nat → Int32) (n : Nat) (en sp : Int32) : Int32 := if s_okB en sp then s_rec f n 16 else cINV
def s_bcF (f : Nat → Int32) (n : Nat) (en sp : Int32) : Nat → Int32 := if s_okB en sp then s_bcU (s_rec f n) en sp else f
def s_bcN (n : Nat) (en sp : Int32) : Nat := if s_okB en sp then s_recn n else n
set_option maxHeartbeats 4000000 in
set_option maxRecDepth 100000 in
theorem c_X5_beginCard (l : Launch) (g : kG) (o : Nat) (q : Nat) (f : Nat → Int32) (n : Nat) (en : Int32) (sp : Int32) : MI l yX5_beginCard cX5_beginCard 5 (some .int) (rr 2 44) [.ref o, .int (en), .int (sp)] ((RP g o q f n)) g 0 0 (RA o q) (fun r H1 => r = s_bcR f n en sp ∧ RP g o q (s_bcF f n en sp) (s_bcN n en sp) H1) := by
  refine kOf (by decide) (Nat.le_of_ble_eq_true rfl) (fun p e s m below meth c ls hC hr hlk hin hK hP hl => ?_)
  have hx := hC.1
  have hb := hC.2.1
  have hml := hC.2.2.1
  have hown := hC.2.2.2.1
  have hts := hC.2.2.2.2
  have hl : lv_has ls 5 [(0, .ref o), (1, .int (en)), (2, .int (sp))] := hl
  have hS : va_S (RA o q) s.heap s.heap [] := va_S.rf
  refine lv_iload_n hx hb dX5_beginCard_0 rfl (lvG hl rfl) ?_
  refine k_callPI (k_goS (rest := []) hC hK (c_X5_isEnd l g en) L_X5_X5_isEnd (⟨⟨Nat.le_of_ble_eq_true rfl, Nat.le_of_ble_eq_true rfl⟩, ⟨rfl, rfl⟩, ⟨Nat.le_of_ble_eq_true rfl, Nat.le_of_ble_eq_true rfl⟩⟩) (trivial) rfl hl.1 rfl (Nat.le_of_ble_eq_true rfl) dX5_beginCard_1) ?_
  refine b_ifeq (tgt := 18) hC dX5_beginCard_4 (by decide) (fun zc4 => ?_) (fun zc4 => ?_)
  · refine lv_ldc (v := (-2000000001 : Int32)) hx hb hown (hts _ w_669) dX5_beginCard_18 ?_
    exact k_iretM hC hr hlk hS dX5_beginCard_20 (by unfold s_bcR s_bcF s_bcN; rw [if_neg (by grind), if_neg (by grind), if_neg (by grind)]; exact ⟨rfl, hP⟩)
  · refine lv_iload_n hx hb dX5_beginCard_7 rfl (lvG hl rfl) ?_
    refine lv_iconst (v := nI 1) hx hb dX5_beginCard_8 (by decide) ?_
    refine lv_sipush (v := nI 600) hx hb dX5_beginCard_9 (by decide) ?_
    refine k_callPI (k_goS (rest := []) hC hK (c_X5_in l g sp (nI 1) (nI 600)) L_X5_X5_in (⟨⟨Nat.le_of_ble_eq_true rfl, Nat.le_of_ble_eq_true rfl⟩, ⟨rfl, rfl⟩, ⟨Nat.le_of_ble_eq_true rfl, Nat.le_of_ble_eq_true rfl⟩⟩) (trivial) rfl hl.1 rfl (Nat.le_of_ble_eq_true rfl) dX5_beginCard_12) ?_
    refine b_ifne (tgt := 21) hC dX5_beginCard_15 (by decide) (fun zc15 => ?_) (fun zc15 => ?_)
    · refine lv_aload_n hx hb dX5_beginCard_21 rfl (lvG hl rfl) ?_
      refine k_callMV0 (k_goV (rest := []) hC hK (c_X5_record l g o q f n) L_X5_X5_record (⟨⟨Nat.le_of_ble_eq_true rfl, Nat.le_of_ble_eq_true rfl⟩, ⟨rfl, rfl⟩, ⟨Nat.le_of_ble_eq_true rfl, Nat.le_of_ble_eq_true rfl⟩⟩) (hP.recv hK) (hP) rfl hl.1 rfl (Nat.le_of_ble_eq_true rfl) dX5_beginCard_22) hS (fun _ h => h) (fun H_1 locs_2 hP_3 _ _ hS_4 => ?_)
      refine lv_aload_n hx hb dX5_beginCard_25 rfl (lvG hl rfl) ?_
      refine r_row hC hK hP_3 dX5_beginCard_26 ?_
      refine lv_bipush (v := nI 16) hx hb dX5_beginCard_29 (by decide) ?_
      refine r_ald (k := 16) hC hK hP_3 (by omega) dX5_beginCard_31 ?_
      refine lv_istore_n (lv' := [(3, .int ((s_rec f n) 16)), (0, .ref o), (1, .int (en)), (2, .int (sp))]) hx hb dX5_beginCard_32 rfl hl (by decide) rfl (fun ls hl => ?_)
      refine lv_aload_n hx hb dX5_beginCard_33 rfl (lvG hl rfl) ?_
      refine r_row hC hK hP_3 dX5_beginCard_34 ?_
      refine lv_bipush (v := nI 16) hx hb dX5_beginCard_37 (by decide) ?_
      refine lv_iconst (v := nI 1) hx hb dX5_beginCard_39 (by decide) ?_
      refine r_ast (k := 16) hC hK hP_3 hS_4 (by omega) dX5_beginCard_40 (fun H_5 locs_6 hP_7 hS_8 => ?_)
      refine lv_aload_n hx hb dX5_beginCard_41 rfl (lvG hl rfl) ?_
      refine r_row hC hK hP_7 dX5_beginCard_42 ?_
      refine lv_bipush (v := nI 17) hx hb dX5_beginCard_45 (by decide) ?_
      refine lv_iload_n hx hb dX5_beginCard_47 rfl (lvG hl rfl) ?_
      refine r_ast (k := 17) hC hK hP_7 hS_8 (by omega) dX5_beginCard_48 (fun H_9 locs_10 hP_11 hS_12 => ?_)
      refine lv_aload_n hx hb dX5_beginCard_49 rfl (lvG hl rfl) ?_
      refine r_row hC hK hP_11 dX5_beginCard_50 ?_
      refine lv_bipush (v := nI 18) hx hb dX5_beginCard_53 (by decide) ?_
      refine lv_iload_n hx hb dX5_beginCard_55 rfl (lvG hl rfl) ?_
      refine r_ast (k := 18) hC hK hP_11 hS_12 (by omega) dX5_beginCard_56 (fun H_13 locs_14 hP_15 hS_16 => ?_)
      refine lv_iconst (v := nI 0) hx hb dX5_beginCard_57 (by decide) ?_
      refine lv_istore (lv' := [(4, .int (nI 0)), (3, .int ((s_rec f n) 16)), (0, .ref o), (1, .int (en)), (2, .int (sp))]) hx hb dX5_beginCard_58 hl (by decide) rfl (fun ls hl => ?_)
      have key_17 : ∀ (k_18 : Nat) (i : Nat) (F : Nat → Int32) (H_l60 : Heap) (locs_l60 : List Loc) (hP_l60 : RP g o q F (s_recn n) H_l60) (hS_l60 : va_S (RA o q) s.heap H_l60 locs_l60) (hi : i ≤ 42) (hF : F = s_fl (upd (upd (upd (s_rec f n) 16 (nI 1)) 17 en) 18 sp) 19 (fun _ => nI 0) i) (hk_k_18 : 42 - i < k_18) (ls : Array Slot) (hl : lv_has ls 5 [(4, .int (nI i)), (3, .int ((s_rec f n) 16)), (0, .ref o), (1, .int (en)), (2, .int (sp))]), W p l e (rr 2 44) s m [.ref o, .int (en), .int (sp)].toArray below meth c H_l60 locs_l60 0 0 (MQ below (qI (RA o q) (fun r H1 => r = s_bcR f n en sp ∧ RP g o q (s_bcF f n en sp) (s_bcN n en sp) H1)) [.ref o, .int (en), .int (sp)].toArray s 0 0 (RA o q)) (F0 m 60 ls ([])) := by
        intro k_18
        induction k_18 with
        | zero => intro i F H_l60 locs_l60 hP_l60 hS_l60 hi hF hk_k_18 ls hl; exact absurd hk_k_18 (Nat.not_lt_zero _)
        | succ k_18 ih_19 =>
          intro i F H_l60 locs_l60 hP_l60 hS_l60 hi hF hk_k_18 ls hl
          refine lv_iload hx hb dX5_beginCard_60 (lvG hl rfl) ?_
          refine lv_bipush (v := nI 42) hx hb dX5_beginCard_62 (by decide) ?_
          refine n_icmp_ge (tgt := 84) hC dX5_beginCard_64 (by omega) (by omega) (by decide) (fun zc64 => ?_) (fun zc64 => ?_)
          · refine lv_iload_n hx hb dX5_beginCard_84 rfl (lvG hl rfl) ?_
            exact k_iretM hC hr hlk hS_l60 dX5_beginCard_85 (by unfold s_bcR s_bcF s_bcN s_bcU; rw [if_pos ⟨zc4, zc15⟩, if_pos ⟨zc4, zc15⟩, if_pos ⟨zc4, zc15⟩]; rw [hF, show i = 42 by omega] at hP_l60; exact ⟨rfl, hP_l60⟩)
          · refine lv_aload_n hx hb dX5_beginCard_67 rfl (lvG hl rfl) ?_
            refine r_row hC hK hP_l60 dX5_beginCard_68 ?_
            refine lv_bipush (v := nI 19) hx hb dX5_beginCard_71 (by decide) ?_
            refine lv_iload hx hb dX5_beginCard_73 (lvG hl rfl) ?_
            refine n_iadd hC dX5_beginCard_75 ?_
            refine lv_iconst (v := nI 0) hx hb dX5_beginCard_76 (by decide) ?_
            refine r_ast (k := 19 + i) hC hK hP_l60 hS_l60 (by omega) dX5_beginCard_77 (fun H_20 locs_21 hP_22 hS_23 => ?_)
            refine n_iinc (lv' := [(4, .int (nI (i + 1))), (3, .int ((s_rec f n) 16)), (0, .ref o), (1, .int (en)), (2, .int (sp))]) hC dX5_beginCard_78 hl rfl (by decide) rfl (fun ls hl => ?_)
            refine lv_goto (tgt := 60) hx hb dX5_beginCard_81 (by decide) ?_
            exact ih_19 (i + 1) (upd F (19 + i) (nI 0)) _ _ hP_22 hS_23 (by first | omega | assumption | rfl) (by rw [hF]; exact s_fl_succ _ _ _ _) (by omega) ls (lv_sub hl [0, 1, 2, 3, 4] rfl)
      exact key_17 ((42 - 0) + 1) 0 (upd (upd (upd (s_rec f n) 16 (nI 1)) 17 en) 18 sp) _ _ hP_15 hS_16 (by first | rfl | omega | assumption) ((s_fl_0 _ _ _).symm) (Nat.lt_succ_self _) ls (lv_sub hl [0, 1, 2, 3, 4] rfl)
    · refine lv_ldc (v := (-2000000001 : Int32)) hx hb hown (hts _ w_669) dX5_beginCard_18 ?_
      exact k_iretM hC hr hlk hS dX5_beginCard_20 (by unfold s_bcR s_bcF s_bcN; rw [if_neg (by grind), if_neg (by grind), if_neg (by grind)]; exact ⟨rfl, hP⟩)
def s_cnt (p : Nat → Int32) : Nat → Nat
  | 0 => 0
  | k + 1 => s_cnt p k + (if p k ≤ nI 0 then 0 else 1)
theorem s_cnt_le (p : Nat → Int32) : ∀ k, s_cnt p k ≤ k
  | 0 => Nat.le_refl 0
  | k + 1 => by
    have h := s_cnt_le p k
    unfold s_cnt
    split <;> omega
set_option maxHeartbeats 4000000 in
set_option maxRecDepth 100000 in
theorem c_X5_points (l : Launch) (g : kG) (o : Nat) (q : Nat) (f : Nat → Int32) (n : Nat) (st : Nat) (h : st ≤ 1) : PI l yX5_points cX5_points 4 (some .int) (rr 0 0) [.ref o, .int (nI st)] ((RP g o q f n)) g (nI (s_cnt (fun k => f (19 + 21 * st + k)) 21)) := by
  refine kOf (by decide) (Nat.le_of_ble_eq_true rfl) (fun p e s m below meth c ls hC hr hlk hin hK hP hl => ?_)
  have hx := hC.1
  have hb := hC.2.1
  have hml := hC.2.2.1
  have hown := hC.2.2.2.1
  have hts := hC.2.2.2.2
  have hl : lv_has ls 4 [(0, .ref o), (1, .int (nI st))] := hl
  refine lv_iconst (v := nI 0) hx hb dX5_points_0 (by decide) ?_
  refine lv_istore_n (lv' := [(2, .int (nI 0)), (0, .ref o), (1, .int (nI st))]) hx hb dX5_points_1 rfl hl (by decide) rfl (fun ls hl => ?_)
  refine lv_iconst (v := nI 0) hx hb dX5_points_2 (by decide) ?_
  refine lv_istore_n (lv' := [(3, .int (nI 0)), (2, .int (nI 0)), (0, .ref o), (1, .int (nI st))]) hx hb dX5_points_3 rfl hl (by decide) rfl (fun ls hl => ?_)
  have key_1 : ∀ (k_2 : Nat) (i : Nat) (cn : Nat)  (hi : i ≤ 21) (hs : cn = s_cnt (fun k => f (19 + 21 * st + k)) i) (hk_k_2 : 21 - i < k_2) (ls : Array Slot) (hl : lv_has ls 4 [(3, .int (nI i)), (2, .int (nI cn)), (0, .ref o), (1, .int (nI st))]), W p l e (rr 0 0) s m [.ref o, .int (nI st)].toArray below meth c s.heap [] 0 0 (MQ below (vp_Si (fun r => r = nI (s_cnt (fun k => f (19 + 21 * st + k)) 21))) [.ref o, .int (nI st)].toArray s 0 0 (fun _ => False)) (F0 m 4 ls ([])) := by
    intro k_2
    induction k_2 with
    | zero => intro i cn hi hs hk_k_2 ls hl; exact absurd hk_k_2 (Nat.not_lt_zero _)
    | succ k_2 ih_3 =>
      intro i cn hi hs hk_k_2 ls hl
      refine lv_iload_n hx hb dX5_points_4 rfl (lvG hl rfl) ?_
      refine lv_bipush (v := nI 21) hx hb dX5_points_5 (by decide) ?_
      refine n_icmp_ge (tgt := 41) hC dX5_points_7 (by omega) (by omega) (by decide) (fun zc7 => ?_) (fun zc7 => ?_)
      · refine lv_iload_n hx hb dX5_points_41 rfl (lvG hl rfl) ?_
        exact k_iret hC hr hlk dX5_points_42 (by rw [hs, show i = 21 by omega])
      · refine lv_iload_n hx hb dX5_points_10 rfl (lvG hl rfl) ?_
        refine lv_aload_n hx hb dX5_points_11 rfl (lvG hl rfl) ?_
        refine r_row hC hK hP dX5_points_12 ?_
        refine lv_bipush (v := nI 19) hx hb dX5_points_15 (by decide) ?_
        refine lv_bipush (v := nI 21) hx hb dX5_points_17 (by decide) ?_
        refine lv_iload_n hx hb dX5_points_19 rfl (lvG hl rfl) ?_
        refine n_imul hC dX5_points_20 ?_
        refine n_iadd hC dX5_points_21 ?_
        refine lv_iload_n hx hb dX5_points_22 rfl (lvG hl rfl) ?_
        refine n_iadd hC dX5_points_23 ?_
        refine r_ald (k := 19 + (21 * st) + i) hC hK hP (by omega) dX5_points_24 ?_
        refine z_if_le (tgt := 32) hC dX5_points_25 (by decide) (fun zc25 => ?_) (fun zc25 => ?_)
        · refine lv_iconst (v := nI 0) hx hb dX5_points_32 (by decide) ?_
          refine n_iadd hC dX5_points_33 ?_
          refine lv_istore_n (lv' := [(2, .int (nI (cn + 0))), (3, .int (nI i)), (0, .ref o), (1, .int (nI st))]) hx hb dX5_points_34 rfl hl (by decide) rfl (fun ls hl => ?_)
          refine n_iinc (lv' := [(3, .int (nI (i + 1))), (2, .int (nI (cn + 0))), (0, .ref o), (1, .int (nI st))]) hC dX5_points_35 hl rfl (by decide) rfl (fun ls hl => ?_)
          refine lv_goto (tgt := 4) hx hb dX5_points_38 (by decide) ?_
          exact ih_3 (i + 1) (cn + 0)  (by first | omega | assumption | rfl) (by unfold s_cnt; first | (rw [if_neg zc25, ← hs]) | (rw [if_pos zc25, ← hs])) (by omega) ls (lv_sub hl [0, 1, 2, 3] rfl)
        · refine lv_iconst (v := nI 1) hx hb dX5_points_28 (by decide) ?_
          refine lv_goto (tgt := 33) hx hb dX5_points_29 (by decide) ?_
          refine n_iadd hC dX5_points_33 ?_
          refine lv_istore_n (lv' := [(2, .int (nI (cn + 1))), (3, .int (nI i)), (0, .ref o), (1, .int (nI st))]) hx hb dX5_points_34 rfl hl (by decide) rfl (fun ls hl => ?_)
          refine n_iinc (lv' := [(3, .int (nI (i + 1))), (2, .int (nI (cn + 1))), (0, .ref o), (1, .int (nI st))]) hC dX5_points_35 hl rfl (by decide) rfl (fun ls hl => ?_)
          refine lv_goto (tgt := 4) hx hb dX5_points_38 (by decide) ?_
          exact ih_3 (i + 1) (cn + 1)  (by first | omega | assumption | rfl) (by unfold s_cnt; first | (rw [if_neg zc25, ← hs]) | (rw [if_pos zc25, ← hs])) (by omega) ls (lv_sub hl [0, 1, 2, 3] rfl)
  exact key_1 ((21 - 0) + 1) 0 0  (by first | rfl | omega | assumption) (by first | rfl | omega | assumption) (Nat.lt_succ_self _) ls (lv_sub hl [0, 1, 2, 3] rfl)
abbrev s_okP (st sa pr : Int32) : Prop := (nI 0 ≤ st ∧ st ≤ nI 1) ∧ (nI 0 ≤ sa ∧ sa ≤ nI 20) ∧ (nI 0 ≤ pr ∧ pr ≤ nI 5000)
def s_spU (f : Nat → Int32) (j k : Nat) (pr : Int32) : Nat → Int32 := upd f (19 + 21 * j + k) (pr + nI 1)
def s_spR (f : Nat → Int32) (n : Nat) (st sa pr : Int32) : Int32 := if s_okP st sa pr then (if f 16 = nI 0 then cILL else nI (s_cnt (fun k => s_spU (s_rec f n) st.toNatClampNeg sa.toNatClampNeg pr (19 + 21 * st.toNatClampNeg + k)) 21)) else cINV
def s_spF (f : Nat → Int32) (n : Nat) (st sa pr : Int32) : Nat → Int32 := if s_okP st sa pr ∧ ¬ f 16 = nI 0 then s_spU (s_rec f n) st.toNatClampNeg sa.toNatClampNeg pr else f
def s_spN (f : Nat → Int32) (n : Nat) (st sa pr : Int32) : Nat := if s_okP st sa pr ∧ ¬ f 16 = nI 0 then s_recn n else n
theorem L_X5_X5_points : LnkV RX5 38 yX5_points cX5_points 4 (some .int) 1 := ⟨w_713, w_715, w_27, w_60, w_716, ⟨by decide +kernel, by decide +kernel⟩, by decide +kernel⟩
set_option maxHeartbeats 4000000 in
set_option maxRecDepth 100000 in
theorem c_X5_setPoint (l : Launch) (g : kG) (o : Nat) (q : Nat) (f : Nat → Int32) (n : Nat) (st : Int32) (sa : Int32) (pr : Int32) : MI l yX5_setPoint cX5_setPoint 4 (some .int) (rr 2 44) [.ref o, .int (st), .int (sa), .int (pr)] ((RP g o q f n)) g 0 0 (RA o q) (fun r H1 => r = s_spR f n st sa pr ∧ RP g o q (s_spF f n st sa pr) (s_spN f n st sa pr) H1) := by
  refine kOf (by decide) (Nat.le_of_ble_eq_true rfl) (fun p e s m below meth c ls hC hr hlk hin hK hP hl => ?_)
  have hx := hC.1
  have hb := hC.2.1
  have hml := hC.2.2.1
  have hown := hC.2.2.2.1
  have hts := hC.2.2.2.2
  have hl : lv_has ls 4 [(0, .ref o), (1, .int (st)), (2, .int (sa)), (3, .int (pr))] := hl
  have hS : va_S (RA o q) s.heap s.heap [] := va_S.rf
  refine lv_iload_n hx hb dX5_setPoint_0 rfl (lvG hl rfl) ?_
  refine lv_iconst (v := nI 0) hx hb dX5_setPoint_1 (by decide) ?_
  refine lv_iconst (v := nI 1) hx hb dX5_setPoint_2 (by decide) ?_
  refine k_callPI (k_goS (rest := []) hC hK (c_X5_in l g st (nI 0) (nI 1)) L_X5_X5_in (⟨⟨Nat.le_of_ble_eq_true rfl, Nat.le_of_ble_eq_true rfl⟩, ⟨rfl, rfl⟩, ⟨Nat.le_of_ble_eq_true rfl, Nat.le_of_ble_eq_true rfl⟩⟩) (trivial) rfl hl.1 rfl (Nat.le_of_ble_eq_true rfl) dX5_setPoint_3) ?_
  refine b_ifeq (tgt := 30) hC dX5_setPoint_6 (by decide) (fun zc6 => ?_) (fun zc6 => ?_)
  · refine lv_ldc (v := (-2000000001 : Int32)) hx hb hown (hts _ w_669) dX5_setPoint_30 ?_
    exact k_iretM hC hr hlk hS dX5_setPoint_32 (by have hno : ¬ s_okP st sa pr := (by grind); unfold s_spR s_spF s_spN; rw [if_neg hno, if_neg (fun q => hno q.1), if_neg (fun q => hno q.1)]; exact ⟨rfl, hP⟩)
  · refine lv_iload_n hx hb dX5_setPoint_9 rfl (lvG hl rfl) ?_
    refine lv_iconst (v := nI 0) hx hb dX5_setPoint_10 (by decide) ?_
    refine lv_bipush (v := nI 20) hx hb dX5_setPoint_11 (by decide) ?_
    refine k_callPI (k_goS (rest := []) hC hK (c_X5_in l g sa (nI 0) (nI 20)) L_X5_X5_in (⟨⟨Nat.le_of_ble_eq_true rfl, Nat.le_of_ble_eq_true rfl⟩, ⟨rfl, rfl⟩, ⟨Nat.le_of_ble_eq_true rfl, Nat.le_of_ble_eq_true rfl⟩⟩) (trivial) rfl hl.1 rfl (Nat.le_of_ble_eq_true rfl) dX5_setPoint_13) ?_
    refine b_ifeq (tgt := 30) hC dX5_setPoint_16 (by decide) (fun zc16 => ?_) (fun zc16 => ?_)
    · refine lv_ldc (v := (-2000000001 : Int32)) hx hb hown (hts _ w_669) dX5_setPoint_30 ?_
      exact k_iretM hC hr hlk hS dX5_setPoint_32 (by have hno : ¬ s_okP st sa pr := (by grind); unfold s_spR s_spF s_spN; rw [if_neg hno, if_neg (fun q => hno q.1), if_neg (fun q => hno q.1)]; exact ⟨rfl, hP⟩)
    · refine lv_iload_n hx hb dX5_setPoint_19 rfl (lvG hl rfl) ?_
      refine lv_iconst (v := nI 0) hx hb dX5_setPoint_20 (by decide) ?_
      refine lv_sipush (v := nI 5000) hx hb dX5_setPoint_21 (by decide) ?_
      refine k_callPI (k_goS (rest := []) hC hK (c_X5_in l g pr (nI 0) (nI 5000)) L_X5_X5_in (⟨⟨Nat.le_of_ble_eq_true rfl, Nat.le_of_ble_eq_true rfl⟩, ⟨rfl, rfl⟩, ⟨Nat.le_of_ble_eq_true rfl, Nat.le_of_ble_eq_true rfl⟩⟩) (trivial) rfl hl.1 rfl (Nat.le_of_ble_eq_true rfl) dX5_setPoint_24) ?_
      refine b_ifne (tgt := 33) hC dX5_setPoint_27 (by decide) (fun zc27 => ?_) (fun zc27 => ?_)
      · refine lv_aload_n hx hb dX5_setPoint_33 rfl (lvG hl rfl) ?_
        refine r_row hC hK hP dX5_setPoint_34 ?_
        refine lv_bipush (v := nI 16) hx hb dX5_setPoint_37 (by decide) ?_
        refine r_ald (k := 16) hC hK hP (by omega) dX5_setPoint_39 ?_
        refine z_if_ne (tgt := 46) hC dX5_setPoint_40 (by decide) (fun zc40 => ?_) (fun zc40 => ?_)
        · obtain ⟨j, h_j, ev_j⟩ := in_nat (by decide) (zc6)
          have e_j : (st).toNatClampNeg = j := by rw [ev_j]; exact nI_clamp (by omega)
          have hl : lv_has ls 4 [(0, .ref o), (1, .int (nI j)), (2, .int (sa)), (3, .int (pr))] := lv_eq hl (by rw [ev_j])
          obtain ⟨k, h_k, ev_k⟩ := in_nat (by decide) (zc16)
          have e_k : (sa).toNatClampNeg = k := by rw [ev_k]; exact nI_clamp (by omega)
          have hl : lv_has ls 4 [(0, .ref o), (1, .int (nI j)), (2, .int (nI k)), (3, .int (pr))] := lv_eq hl (by rw [ev_k])
          refine lv_aload_n hx hb dX5_setPoint_46 rfl (lvG hl rfl) ?_
          refine k_callMV0 (k_goV (rest := []) hC hK (c_X5_record l g o q f n) L_X5_X5_record (⟨⟨Nat.le_of_ble_eq_true rfl, Nat.le_of_ble_eq_true rfl⟩, ⟨rfl, rfl⟩, ⟨Nat.le_of_ble_eq_true rfl, Nat.le_of_ble_eq_true rfl⟩⟩) (hP.recv hK) (hP) rfl hl.1 rfl (Nat.le_of_ble_eq_true rfl) dX5_setPoint_47) hS (fun _ h => h) (fun H_1 locs_2 hP_3 _ _ hS_4 => ?_)
          refine lv_aload_n hx hb dX5_setPoint_50 rfl (lvG hl rfl) ?_
          refine r_row hC hK hP_3 dX5_setPoint_51 ?_
          refine lv_bipush (v := nI 19) hx hb dX5_setPoint_54 (by decide) ?_
          refine lv_bipush (v := nI 21) hx hb dX5_setPoint_56 (by decide) ?_
          refine lv_iload_n hx hb dX5_setPoint_58 rfl (lvG hl rfl) ?_
          refine n_imul hC dX5_setPoint_59 ?_
          refine n_iadd hC dX5_setPoint_60 ?_
          refine lv_iload_n hx hb dX5_setPoint_61 rfl (lvG hl rfl) ?_
          refine n_iadd hC dX5_setPoint_62 ?_
          refine lv_iload_n hx hb dX5_setPoint_63 rfl (lvG hl rfl) ?_
          refine lv_iconst (v := nI 1) hx hb dX5_setPoint_64 (by decide) ?_
          refine lv_iadd hx hb dX5_setPoint_65 ?_
          refine r_ast (k := 19 + (21 * j) + k) hC hK hP_3 hS_4 (by omega) dX5_setPoint_66 (fun H_5 locs_6 hP_7 hS_8 => ?_)
          refine lv_aload_n hx hb dX5_setPoint_67 rfl (lvG hl rfl) ?_
          refine lv_iload_n hx hb dX5_setPoint_68 rfl (lvG hl rfl) ?_
          refine k_callPI (k_goV (rest := []) hC hK (c_X5_points l g o q (upd (s_rec f n) (19 + (21 * j) + k) (pr + (nI 1))) (s_recn n) j (by first | assumption | omega)) L_X5_X5_points (⟨⟨Nat.le_of_ble_eq_true rfl, Nat.le_of_ble_eq_true rfl⟩, ⟨rfl, rfl⟩, ⟨Nat.le_of_ble_eq_true rfl, Nat.le_of_ble_eq_true rfl⟩⟩) (hP_7.recv hK) (hP_7) rfl hl.1 rfl (Nat.le_of_ble_eq_true rfl) dX5_setPoint_69) ?_
          exact k_iretM hC hr hlk hS_8 dX5_setPoint_72 (by unfold s_spR s_spF s_spN; rw [if_pos ⟨zc6, zc16, zc27⟩, if_neg zc40, if_pos ⟨⟨zc6, zc16, zc27⟩, zc40⟩, if_pos ⟨⟨zc6, zc16, zc27⟩, zc40⟩, e_j, e_k]; exact ⟨rfl, hP_7⟩)
        · refine lv_ldc (v := (-2000000002 : Int32)) hx hb hown (hts _ w_653) dX5_setPoint_43 ?_
          exact k_iretM hC hr hlk hS dX5_setPoint_45 (by unfold s_spR s_spF s_spN; rw [if_pos ⟨zc6, zc16, zc27⟩, if_pos zc40, if_neg (fun q => q.2 zc40), if_neg (fun q => q.2 zc40)]; exact ⟨rfl, hP⟩)
      · refine lv_ldc (v := (-2000000001 : Int32)) hx hb hown (hts _ w_669) dX5_setPoint_30 ?_
        exact k_iretM hC hr hlk hS dX5_setPoint_32 (by have hno : ¬ s_okP st sa pr := (by grind); unfold s_spR s_spF s_spN; rw [if_neg hno, if_neg (fun q => hno q.1), if_neg (fun q => hno q.1)]; exact ⟨rfl, hP⟩)
def s_dn (p : Nat → Int32) : Nat → Nat
  | 0 => 0
  | k + 1 => if p k = nI 0 then s_dn p k else k + 1
def s_up (p : Nat → Int32) : Nat → Nat → Nat
  | 0, k => k
  | m + 1, k => if p k = nI 0 then s_up p m (k + 1) else k
theorem s_dn_le (p : Nat → Int32) : ∀ k, s_dn p k ≤ k
  | 0 => Nat.le_refl 0
  | k + 1 => by
    have h := s_dn_le p k
    unfold s_dn
    split <;> omega
theorem s_up_in (p : Nat → Int32) : ∀ m k, k ≤ s_up p m k ∧ s_up p m k ≤ k + m
  | 0, k => ⟨Nat.le_refl _, Nat.le_refl _⟩
  | m + 1, k => by
    have h := s_up_in p m (k + 1)
    unfold s_up
    split <;> omega
def s_drw (p : Nat → Int32) (st d u : Nat) : Int32 := if d = 0 ∨ 20 < u ∨ d = u + 1 then p (if d = 0 then u else d - 1) - nI 1 else p (d - 1) - nI 1 + (s_quo ((p u - p (d - 1)).toInt64 * (nI (st - (d - 1))).toInt64) (nI (u - (d - 1))).toInt64).toInt32
def s_dr (p : Nat → Int32) (st : Nat) : Int32 := s_drw p st (s_dn p (st + 1)) (s_up p (21 - st) st)
theorem l_ne0 {n : Nat} (h0 : 0 < n) (h : n < 2 ^ 31) : ¬ (nI n).toInt64 = 0 := by
  rw [nI_l h]
  intro e
  have := (lN_eq h (show 0 < 2 ^ 31 by decide)).mp (show lN n = lN 0 from e)
  omega
theorem pd_lt {x : Nat} (h : x < 2 ^ 31) : nI x + (-1) < 0 ↔ x = 0 := by
  cases x with
  | zero => exact ⟨fun _ => rfl, fun _ => by decide⟩
  | succ y => rw [pk_m1]; exact ⟨fun q => absurd q (nI_pos (by omega)), fun q => absurd q (by omega)⟩
theorem pd_ge {x : Nat} (h : x < 2 ^ 31) : 0 ≤ nI x + (-1) ↔ ¬ x = 0 := by
  rw [← Int32.not_lt, pd_lt h]
