theorem L_X5_X5_quotient : LnkS RX5 42 yX5_quotient cX5_quotient 4 (some .long) 2 := ⟨w_726, w_727, w_60, w_728, ⟨by decide +kernel, by decide +kernel⟩, by decide +kernel⟩
set_option maxHeartbeats 4000000 in
set_option maxRecDepth 100000 in
theorem c_X5_drafted (l : Launch) (g : kG) (o : Nat) (q : Nat) (f : Nat → Int32) (n : Nat) (st : Nat) (sa : Nat) (h : st ≤ 1) (h2 : sa ≤ 20) : PI l yX5_drafted cX5_drafted 7 (some .int) (rr 1 23) [.ref o, .int (nI st), .int (nI sa)] ((RP g o q f n)) g (s_dr (fun k => f (19 + 21 * st + k)) sa) := by
  refine kOf (by decide) (Nat.le_of_ble_eq_true rfl) (fun p e s m below meth c ls hC hr hlk hin hK hP hl => ?_)
  have hx := hC.1
  have hb := hC.2.1
  have hml := hC.2.2.1
  have hown := hC.2.2.2.1
  have hts := hC.2.2.2.2
  have hl : lv_has ls 7 [(0, .ref o), (1, .int (nI st)), (2, .int (nI sa))] := hl
  refine lv_bipush (v := nI 19) hx hb dX5_drafted_0 (by decide) ?_
  refine lv_bipush (v := nI 21) hx hb dX5_drafted_2 (by decide) ?_
  refine lv_iload_n hx hb dX5_drafted_4 rfl (lvG hl rfl) ?_
  refine n_imul hC dX5_drafted_5 ?_
  refine n_iadd hC dX5_drafted_6 ?_
  refine lv_istore_n (lv' := [(3, .int (nI (19 + (21 * st)))), (0, .ref o), (1, .int (nI st)), (2, .int (nI sa))]) hx hb dX5_drafted_7 rfl hl (by decide) rfl (fun ls hl => ?_)
  refine lv_iload_n hx hb dX5_drafted_8 rfl (lvG hl rfl) ?_
  refine lv_istore (lv' := [(4, .int (nI sa)), (3, .int (nI (19 + (21 * st)))), (0, .ref o), (1, .int (nI st)), (2, .int (nI sa))]) hx hb dX5_drafted_9 hl (by decide) rfl (fun ls hl => ?_)
  have hl : lv_has ls 7 [(4, .int (nI (sa + 1) + (-1))), (3, .int (nI (19 + (21 * st)))), (0, .ref o), (1, .int (nI st)), (2, .int (nI sa))] := lv_eq hl (by rw [pk_m1])
  have key_1 : ∀ (k_2 : Nat) (x : Nat)  (hi : x ≤ sa + 1) (hxx : s_dn (fun k => f (19 + 21 * st + k)) x = s_dn (fun k => f (19 + 21 * st + k)) (sa + 1)) (hk_k_2 : x < k_2) (ls : Array Slot) (hl : lv_has ls 7 [(4, .int (nI x + (-1))), (3, .int (nI (19 + (21 * st)))), (0, .ref o), (1, .int (nI st)), (2, .int (nI sa))]), W p l e (rr 1 23) s m [.ref o, .int (nI st), .int (nI sa)].toArray below meth c s.heap [] 0 0 (MQ below (vp_Si (fun r => r = s_dr (fun k => f (19 + 21 * st + k)) sa)) [.ref o, .int (nI st), .int (nI sa)].toArray s 0 0 (fun _ => False)) (F0 m 11 ls ([])) := by
    intro k_2
    induction k_2 with
    | zero => intro x hi hxx hk_k_2 ls hl; exact absurd hk_k_2 (Nat.not_lt_zero _)
    | succ k_2 ih_3 =>
      intro x hi hxx hk_k_2 ls hl
      refine lv_iload hx hb dX5_drafted_11 (lvG hl rfl) ?_
      refine z_if_lt (tgt := 34) hC dX5_drafted_13 (by decide) (fun zc13 => ?_) (fun zc13 => ?_)
      · have hd0 : x = 0 := (pd_lt (by omega)).mp zc13
        subst hd0
        have hd : 0 = s_dn (fun k => f (19 + 21 * st + k)) (sa + 1) := hxx
        have hl : lv_has ls 7 [(4, .int ((-1 : Int32))), (3, .int (nI (19 + (21 * st)))), (0, .ref o), (1, .int (nI st)), (2, .int (nI sa))] := lv_eq hl (by rw [show nI 0 + (-1) = (-1 : Int32) by decide])
        refine lv_iload_n hx hb dX5_drafted_34 rfl (lvG hl rfl) ?_
        refine lv_istore (lv' := [(5, .int (nI sa)), (4, .int ((-1 : Int32))), (3, .int (nI (19 + (21 * st)))), (0, .ref o), (1, .int (nI st)), (2, .int (nI sa))]) hx hb dX5_drafted_35 hl (by decide) rfl (fun ls hl => ?_)
        have key_4 : ∀ (k_5 : Nat) (u : Nat)  (hu : sa ≤ u ∧ u ≤ 21) (hux : s_up (fun k => f (19 + 21 * st + k)) (21 - u) u = s_up (fun k => f (19 + 21 * st + k)) (21 - sa) sa) (hk_k_5 : 21 - u < k_5) (ls : Array Slot) (hl : lv_has ls 7 [(5, .int (nI u)), (4, .int ((-1 : Int32))), (3, .int (nI (19 + (21 * st)))), (0, .ref o), (1, .int (nI st)), (2, .int (nI sa))]), W p l e (rr 1 23) s m [.ref o, .int (nI st), .int (nI sa)].toArray below meth c s.heap [] 0 0 (MQ below (vp_Si (fun r => r = s_dr (fun k => f (19 + 21 * st + k)) sa)) [.ref o, .int (nI st), .int (nI sa)].toArray s 0 0 (fun _ => False)) (F0 m 37 ls ([])) := by
          intro k_5
          induction k_5 with
          | zero => intro u hu hux hk_k_5 ls hl; exact absurd hk_k_5 (Nat.not_lt_zero _)
          | succ k_5 ih_6 =>
            intro u hu hux hk_k_5 ls hl
            refine lv_iload hx hb dX5_drafted_37 (lvG hl rfl) ?_
            refine lv_bipush (v := nI 21) hx hb dX5_drafted_39 (by decide) ?_
            refine n_icmp_ge (tgt := 62) hC dX5_drafted_41 (by omega) (by omega) (by decide) (fun zc41 => ?_) (fun zc41 => ?_)
            · have hue : u = s_up (fun k => f (19 + 21 * st + k)) (21 - sa) sa := by first | (rw [← hux, show 21 - u = 0 by omega]; rfl) | (rw [← hux, show 21 - u = (20 - u) + 1 by omega]; conv => { rhs; unfold s_up }; rw [if_neg zc53])
              refine lv_iload hx hb dX5_drafted_62 (lvG hl rfl) ?_
              refine z_if_lt (tgt := 81) hC dX5_drafted_64 (by decide) (fun zc64 => ?_) (fun zc64 => ?_)
              · refine lv_aload_n hx hb dX5_drafted_81 rfl (lvG hl rfl) ?_
                refine r_row hC hK hP dX5_drafted_82 ?_
                refine lv_iload_n hx hb dX5_drafted_85 rfl (lvG hl rfl) ?_
                refine lv_iload hx hb dX5_drafted_86 (lvG hl rfl) ?_
                refine z_if_ge (tgt := 96) hC dX5_drafted_88 (by decide) (fun zc88 => ?_) (fun zc88 => ?_)
                · exact absurd zc88 (by decide)
                · refine lv_iload hx hb dX5_drafted_91 (lvG hl rfl) ?_
                  refine lv_goto (tgt := 98) hx hb dX5_drafted_93 (by decide) ?_
                  refine n_iadd hC dX5_drafted_98 ?_
                  refine r_ald (k := 19 + (21 * st) + u) hC hK hP (by omega) dX5_drafted_99 ?_
                  refine lv_iconst (v := nI 1) hx hb dX5_drafted_100 (by decide) ?_
                  refine lv_isub hx hb dX5_drafted_101 ?_
                  exact k_iret hC hr hlk dX5_drafted_102 (by show _ = s_drw (fun k => f (19 + 21 * st + k)) sa (s_dn (fun k => f (19 + 21 * st + k)) (sa + 1)) (s_up (fun k => f (19 + 21 * st + k)) (21 - sa) sa); rw [← hd, ← hue]; unfold s_drw; first | (rw [if_neg (by omega)]; rfl) | (rw [if_pos (by omega)]; first | (rw [if_pos rfl]; done) | (rw [if_neg (by omega)]; rfl) | (congr 2; omega)))
              · exact absurd (by decide) zc64
            · refine lv_aload_n hx hb dX5_drafted_44 rfl (lvG hl rfl) ?_
              refine r_row hC hK hP dX5_drafted_45 ?_
              refine lv_iload_n hx hb dX5_drafted_48 rfl (lvG hl rfl) ?_
              refine lv_iload hx hb dX5_drafted_49 (lvG hl rfl) ?_
              refine n_iadd hC dX5_drafted_51 ?_
              refine r_ald (k := 19 + (21 * st) + u) hC hK hP (by omega) dX5_drafted_52 ?_
              refine z_if_ne (tgt := 62) hC dX5_drafted_53 (by decide) (fun zc53 => ?_) (fun zc53 => ?_)
              · have hue : u = s_up (fun k => f (19 + 21 * st + k)) (21 - sa) sa := by first | (rw [← hux, show 21 - u = 0 by omega]; rfl) | (rw [← hux, show 21 - u = (20 - u) + 1 by omega]; conv => { rhs; unfold s_up }; rw [if_neg zc53])
                refine lv_iload hx hb dX5_drafted_62 (lvG hl rfl) ?_
                refine z_if_lt (tgt := 81) hC dX5_drafted_64 (by decide) (fun zc64 => ?_) (fun zc64 => ?_)
                · refine lv_aload_n hx hb dX5_drafted_81 rfl (lvG hl rfl) ?_
                  refine r_row hC hK hP dX5_drafted_82 ?_
                  refine lv_iload_n hx hb dX5_drafted_85 rfl (lvG hl rfl) ?_
                  refine lv_iload hx hb dX5_drafted_86 (lvG hl rfl) ?_
                  refine z_if_ge (tgt := 96) hC dX5_drafted_88 (by decide) (fun zc88 => ?_) (fun zc88 => ?_)
                  · exact absurd zc88 (by decide)
                  · refine lv_iload hx hb dX5_drafted_91 (lvG hl rfl) ?_
                    refine lv_goto (tgt := 98) hx hb dX5_drafted_93 (by decide) ?_
                    refine n_iadd hC dX5_drafted_98 ?_
                    refine r_ald (k := 19 + (21 * st) + u) hC hK hP (by omega) dX5_drafted_99 ?_
                    refine lv_iconst (v := nI 1) hx hb dX5_drafted_100 (by decide) ?_
                    refine lv_isub hx hb dX5_drafted_101 ?_
                    exact k_iret hC hr hlk dX5_drafted_102 (by show _ = s_drw (fun k => f (19 + 21 * st + k)) sa (s_dn (fun k => f (19 + 21 * st + k)) (sa + 1)) (s_up (fun k => f (19 + 21 * st + k)) (21 - sa) sa); rw [← hd, ← hue]; unfold s_drw; first | (rw [if_neg (by omega)]; rfl) | (rw [if_pos (by omega)]; first | (rw [if_pos rfl]; done) | (rw [if_neg (by omega)]; rfl) | (congr 2; omega)))
                · exact absurd (by decide) zc64
              · refine n_iinc (lv' := [(5, .int (nI (u + 1))), (4, .int ((-1 : Int32))), (3, .int (nI (19 + (21 * st)))), (0, .ref o), (1, .int (nI st)), (2, .int (nI sa))]) hC dX5_drafted_56 hl rfl (by decide) rfl (fun ls hl => ?_)
                refine lv_goto (tgt := 37) hx hb dX5_drafted_59 (by decide) ?_
                exact ih_6 (u + 1)  (by first | omega | assumption | rfl) (by rw [← hux, show 21 - u = (21 - (u + 1)) + 1 by omega]; conv => { rhs; unfold s_up }; rw [if_pos zc53]) (by omega) ls (lv_sub hl [0, 1, 2, 3, 4, 5] rfl)
        exact key_4 ((21 - sa) + 1) sa  (by first | rfl | omega | assumption) (by first | rfl | omega | assumption) (Nat.lt_succ_self _) ls (lv_sub hl [0, 1, 2, 3, 4, 5] rfl)
      · obtain ⟨z, rfl⟩ : ∃ z, x = z + 1 := ⟨x - 1, by have := mt (pd_lt (x := x) (by omega)).mpr zc13; omega⟩
        have hl : lv_has ls 7 [(4, .int (nI z)), (3, .int (nI (19 + (21 * st)))), (0, .ref o), (1, .int (nI st)), (2, .int (nI sa))] := lv_eq hl (by rw [pk_m1])
        refine lv_aload_n hx hb dX5_drafted_16 rfl (lvG hl rfl) ?_
        refine r_row hC hK hP dX5_drafted_17 ?_
        refine lv_iload_n hx hb dX5_drafted_20 rfl (lvG hl rfl) ?_
        refine lv_iload hx hb dX5_drafted_21 (lvG hl rfl) ?_
        refine n_iadd hC dX5_drafted_23 ?_
        refine r_ald (k := 19 + (21 * st) + z) hC hK hP (by omega) dX5_drafted_24 ?_
        refine z_if_ne (tgt := 34) hC dX5_drafted_25 (by decide) (fun zc25 => ?_) (fun zc25 => ?_)
        · have hd : z + 1 = s_dn (fun k => f (19 + 21 * st + k)) (sa + 1) := by rw [← hxx]; unfold s_dn; rw [if_neg zc25]
          refine lv_iload_n hx hb dX5_drafted_34 rfl (lvG hl rfl) ?_
          refine lv_istore (lv' := [(5, .int (nI sa)), (4, .int (nI z)), (3, .int (nI (19 + (21 * st)))), (0, .ref o), (1, .int (nI st)), (2, .int (nI sa))]) hx hb dX5_drafted_35 hl (by decide) rfl (fun ls hl => ?_)
          have key_7 : ∀ (k_8 : Nat) (u : Nat)  (hu : sa ≤ u ∧ u ≤ 21) (hux : s_up (fun k => f (19 + 21 * st + k)) (21 - u) u = s_up (fun k => f (19 + 21 * st + k)) (21 - sa) sa) (hk_k_8 : 21 - u < k_8) (ls : Array Slot) (hl : lv_has ls 7 [(5, .int (nI u)), (4, .int (nI z)), (3, .int (nI (19 + (21 * st)))), (0, .ref o), (1, .int (nI st)), (2, .int (nI sa))]), W p l e (rr 1 23) s m [.ref o, .int (nI st), .int (nI sa)].toArray below meth c s.heap [] 0 0 (MQ below (vp_Si (fun r => r = s_dr (fun k => f (19 + 21 * st + k)) sa)) [.ref o, .int (nI st), .int (nI sa)].toArray s 0 0 (fun _ => False)) (F0 m 37 ls ([])) := by
            intro k_8
            induction k_8 with
            | zero => intro u hu hux hk_k_8 ls hl; exact absurd hk_k_8 (Nat.not_lt_zero _)
            | succ k_8 ih_9 =>
              intro u hu hux hk_k_8 ls hl
              refine lv_iload hx hb dX5_drafted_37 (lvG hl rfl) ?_
              refine lv_bipush (v := nI 21) hx hb dX5_drafted_39 (by decide) ?_
              refine n_icmp_ge (tgt := 62) hC dX5_drafted_41 (by omega) (by omega) (by decide) (fun zc41 => ?_) (fun zc41 => ?_)
              · have hue : u = s_up (fun k => f (19 + 21 * st + k)) (21 - sa) sa := by first | (rw [← hux, show 21 - u = 0 by omega]; rfl) | (rw [← hux, show 21 - u = (20 - u) + 1 by omega]; conv => { rhs; unfold s_up }; rw [if_neg zc53])
                refine lv_iload hx hb dX5_drafted_62 (lvG hl rfl) ?_
                refine n_if_lt (tgt := 81) hC dX5_drafted_64 (by omega) (by decide) (fun zc64 => ?_) (fun zc64 => ?_)
                · refine lv_aload_n hx hb dX5_drafted_81 rfl (lvG hl rfl) ?_
                  refine r_row hC hK hP dX5_drafted_82 ?_
                  refine lv_iload_n hx hb dX5_drafted_85 rfl (lvG hl rfl) ?_
                  refine lv_iload hx hb dX5_drafted_86 (lvG hl rfl) ?_
                  refine n_if_ge (tgt := 96) hC dX5_drafted_88 (by omega) (by decide) (fun zc88 => ?_) (fun zc88 => ?_)
                  · refine lv_iload hx hb dX5_drafted_96 (lvG hl rfl) ?_
                    refine n_iadd hC dX5_drafted_98 ?_
                    refine r_ald (k := 19 + (21 * st) + z) hC hK hP (by omega) dX5_drafted_99 ?_
                    refine lv_iconst (v := nI 1) hx hb dX5_drafted_100 (by decide) ?_
                    refine lv_isub hx hb dX5_drafted_101 ?_
                    exact k_iret hC hr hlk dX5_drafted_102 (by show _ = s_drw (fun k => f (19 + 21 * st + k)) sa (s_dn (fun k => f (19 + 21 * st + k)) (sa + 1)) (s_up (fun k => f (19 + 21 * st + k)) (21 - sa) sa); rw [← hd, ← hue]; unfold s_drw; first | (rw [if_neg (by omega)]; rfl) | (rw [if_pos (by omega)]; first | (rw [if_pos rfl]; done) | (rw [if_neg (by omega)]; rfl) | (congr 2; omega)))
                  · refine lv_iload hx hb dX5_drafted_91 (lvG hl rfl) ?_
                    refine lv_goto (tgt := 98) hx hb dX5_drafted_93 (by decide) ?_
                    refine n_iadd hC dX5_drafted_98 ?_
                    refine r_ald (k := 19 + (21 * st) + u) hC hK hP (by omega) dX5_drafted_99 ?_
                    refine lv_iconst (v := nI 1) hx hb dX5_drafted_100 (by decide) ?_
                    refine lv_isub hx hb dX5_drafted_101 ?_
                    exact k_iret hC hr hlk dX5_drafted_102 (by show _ = s_drw (fun k => f (19 + 21 * st + k)) sa (s_dn (fun k => f (19 + 21 * st + k)) (sa + 1)) (s_up (fun k => f (19 + 21 * st + k)) (21 - sa) sa); rw [← hd, ← hue]; unfold s_drw; first | (rw [if_neg (by omega)]; rfl) | (rw [if_pos (by omega)]; first | (rw [if_pos rfl]; done) | (rw [if_neg (by omega)]; rfl) | (congr 2; omega)))
                · refine lv_iload hx hb dX5_drafted_67 (lvG hl rfl) ?_
                  refine lv_bipush (v := nI 20) hx hb dX5_drafted_69 (by decide) ?_
                  refine n_icmp_gt (tgt := 81) hC dX5_drafted_71 (by omega) (by omega) (by decide) (fun zc71 => ?_) (fun zc71 => ?_)
                  · refine lv_aload_n hx hb dX5_drafted_81 rfl (lvG hl rfl) ?_
                    refine r_row hC hK hP dX5_drafted_82 ?_
                    refine lv_iload_n hx hb dX5_drafted_85 rfl (lvG hl rfl) ?_
                    refine lv_iload hx hb dX5_drafted_86 (lvG hl rfl) ?_
                    refine n_if_ge (tgt := 96) hC dX5_drafted_88 (by omega) (by decide) (fun zc88 => ?_) (fun zc88 => ?_)
                    · refine lv_iload hx hb dX5_drafted_96 (lvG hl rfl) ?_
                      refine n_iadd hC dX5_drafted_98 ?_
                      refine r_ald (k := 19 + (21 * st) + z) hC hK hP (by omega) dX5_drafted_99 ?_
                      refine lv_iconst (v := nI 1) hx hb dX5_drafted_100 (by decide) ?_
                      refine lv_isub hx hb dX5_drafted_101 ?_
                      exact k_iret hC hr hlk dX5_drafted_102 (by show _ = s_drw (fun k => f (19 + 21 * st + k)) sa (s_dn (fun k => f (19 + 21 * st + k)) (sa + 1)) (s_up (fun k => f (19 + 21 * st + k)) (21 - sa) sa); rw [← hd, ← hue]; unfold s_drw; first | (rw [if_neg (by omega)]; rfl) | (rw [if_pos (by omega)]; first | (rw [if_pos rfl]; done) | (rw [if_neg (by omega)]; rfl) | (congr 2; omega)))
                    · refine lv_iload hx hb dX5_drafted_91 (lvG hl rfl) ?_
                      refine lv_goto (tgt := 98) hx hb dX5_drafted_93 (by decide) ?_
                      refine n_iadd hC dX5_drafted_98 ?_
                      refine r_ald (k := 19 + (21 * st) + u) hC hK hP (by omega) dX5_drafted_99 ?_
                      refine lv_iconst (v := nI 1) hx hb dX5_drafted_100 (by decide) ?_
                      refine lv_isub hx hb dX5_drafted_101 ?_
                      exact k_iret hC hr hlk dX5_drafted_102 (by show _ = s_drw (fun k => f (19 + 21 * st + k)) sa (s_dn (fun k => f (19 + 21 * st + k)) (sa + 1)) (s_up (fun k => f (19 + 21 * st + k)) (21 - sa) sa); rw [← hd, ← hue]; unfold s_drw; first | (rw [if_neg (by omega)]; rfl) | (rw [if_pos (by omega)]; first | (rw [if_pos rfl]; done) | (rw [if_neg (by omega)]; rfl) | (congr 2; omega)))
                  · refine lv_iload hx hb dX5_drafted_74 (lvG hl rfl) ?_
                    refine lv_iload hx hb dX5_drafted_76 (lvG hl rfl) ?_
                    refine n_icmp_ne (tgt := 103) hC dX5_drafted_78 (by omega) (by omega) (by decide) (fun zc78 => ?_) (fun zc78 => ?_)
                    · refine lv_aload_n hx hb dX5_drafted_103 rfl (lvG hl rfl) ?_
                      refine r_row hC hK hP dX5_drafted_104 ?_
                      refine lv_iload_n hx hb dX5_drafted_107 rfl (lvG hl rfl) ?_
                      refine lv_iload hx hb dX5_drafted_108 (lvG hl rfl) ?_
                      refine n_iadd hC dX5_drafted_110 ?_
                      refine r_ald (k := 19 + (21 * st) + z) hC hK hP (by omega) dX5_drafted_111 ?_
                      refine lv_istore (lv' := [(6, .int (f (19 + (21 * st) + z))), (5, .int (nI u)), (4, .int (nI z)), (3, .int (nI (19 + (21 * st)))), (0, .ref o), (1, .int (nI st)), (2, .int (nI sa))]) hx hb dX5_drafted_112 hl (by decide) rfl (fun ls hl => ?_)
                      refine lv_iload hx hb dX5_drafted_114 (lvG hl rfl) ?_
                      refine lv_iconst (v := nI 1) hx hb dX5_drafted_116 (by decide) ?_
                      refine lv_isub hx hb dX5_drafted_117 ?_
                      refine lv_aload_n hx hb dX5_drafted_118 rfl (lvG hl rfl) ?_
                      refine r_row hC hK hP dX5_drafted_119 ?_
                      refine lv_iload_n hx hb dX5_drafted_122 rfl (lvG hl rfl) ?_
                      refine lv_iload hx hb dX5_drafted_123 (lvG hl rfl) ?_
                      refine n_iadd hC dX5_drafted_125 ?_
                      refine r_ald (k := 19 + (21 * st) + u) hC hK hP (by omega) dX5_drafted_126 ?_
                      refine lv_iload hx hb dX5_drafted_127 (lvG hl rfl) ?_
                      refine lv_isub hx hb dX5_drafted_129 ?_
                      refine lv_i2l (v := ((f (19 + (21 * st) + u)) - (f (19 + (21 * st) + z))).toInt64) hx hb dX5_drafted_130 rfl ?_
                      refine lv_iload_n hx hb dX5_drafted_131 rfl (lvG hl rfl) ?_
                      refine lv_iload hx hb dX5_drafted_132 (lvG hl rfl) ?_
                      refine n_isub hC dX5_drafted_134 (by omega) ?_
                      refine lv_i2l (v := (nI (sa - z)).toInt64) hx hb dX5_drafted_135 rfl ?_
                      refine lv_lmul hx hb dX5_drafted_136 ?_
                      refine lv_iload hx hb dX5_drafted_137 (lvG hl rfl) ?_
                      refine lv_iload hx hb dX5_drafted_139 (lvG hl rfl) ?_
                      refine n_isub hC dX5_drafted_141 (by omega) ?_
                      refine lv_i2l (v := (nI (u - z)).toInt64) hx hb dX5_drafted_142 rfl ?_
                      refine k_callPL (k_goS (rest := [.int ((f (19 + (21 * st) + z)) - (nI 1))]) hC hK (c_X5_quotient l g ((((f (19 + (21 * st) + u)) - (f (19 + (21 * st) + z))).toInt64) * ((nI (sa - z)).toInt64)) ((nI (u - z)).toInt64) (l_ne0 (by omega) (by omega))) L_X5_X5_quotient (⟨⟨Nat.le_of_ble_eq_true rfl, Nat.le_of_ble_eq_true rfl⟩, ⟨rfl, rfl⟩, ⟨Nat.le_of_ble_eq_true rfl, Nat.le_of_ble_eq_true rfl⟩⟩) (trivial) rfl hl.1 rfl (Nat.le_of_ble_eq_true rfl) dX5_drafted_143) ?_
                      refine lv_l2i (v := (s_quo ((((f (19 + (21 * st) + u)) - (f (19 + (21 * st) + z))).toInt64) * ((nI (sa - z)).toInt64)) ((nI (u - z)).toInt64)).toInt32) hx hb dX5_drafted_146 rfl ?_
                      refine lv_iadd hx hb dX5_drafted_147 ?_
                      exact k_iret hC hr hlk dX5_drafted_148 (by show _ = s_drw (fun k => f (19 + 21 * st + k)) sa (s_dn (fun k => f (19 + 21 * st + k)) (sa + 1)) (s_up (fun k => f (19 + 21 * st + k)) (21 - sa) sa); rw [← hd, ← hue]; unfold s_drw; first | (rw [if_neg (by omega)]; rfl) | (rw [if_pos (by omega)]; first | (rw [if_pos rfl]; done) | (rw [if_neg (by omega)]; rfl) | (congr 2; omega)))
                    · refine lv_aload_n hx hb dX5_drafted_81 rfl (lvG hl rfl) ?_
                      refine r_row hC hK hP dX5_drafted_82 ?_
                      refine lv_iload_n hx hb dX5_drafted_85 rfl (lvG hl rfl) ?_
                      refine lv_iload hx hb dX5_drafted_86 (lvG hl rfl) ?_
                      refine n_if_ge (tgt := 96) hC dX5_drafted_88 (by omega) (by decide) (fun zc88 => ?_) (fun zc88 => ?_)
                      · refine lv_iload hx hb dX5_drafted_96 (lvG hl rfl) ?_
                        refine n_iadd hC dX5_drafted_98 ?_
                        refine r_ald (k := 19 + (21 * st) + z) hC hK hP (by omega) dX5_drafted_99 ?_
                        refine lv_iconst (v := nI 1) hx hb dX5_drafted_100 (by decide) ?_
                        refine lv_isub hx hb dX5_drafted_101 ?_
                        exact k_iret hC hr hlk dX5_drafted_102 (by show _ = s_drw (fun k => f (19 + 21 * st + k)) sa (s_dn (fun k => f (19 + 21 * st + k)) (sa + 1)) (s_up (fun k => f (19 + 21 * st + k)) (21 - sa) sa); rw [← hd, ← hue]; unfold s_drw; first | (rw [if_neg (by omega)]; rfl) | (rw [if_pos (by omega)]; first | (rw [if_pos rfl]; done) | (rw [if_neg (by omega)]; rfl) | (congr 2; omega)))
                      · refine lv_iload hx hb dX5_drafted_91 (lvG hl rfl) ?_
                        refine lv_goto (tgt := 98) hx hb dX5_drafted_93 (by decide) ?_
                        refine n_iadd hC dX5_drafted_98 ?_
                        refine r_ald (k := 19 + (21 * st) + u) hC hK hP (by omega) dX5_drafted_99 ?_
                        refine lv_iconst (v := nI 1) hx hb dX5_drafted_100 (by decide) ?_
                        refine lv_isub hx hb dX5_drafted_101 ?_
                        exact k_iret hC hr hlk dX5_drafted_102 (by show _ = s_drw (fun k => f (19 + 21 * st + k)) sa (s_dn (fun k => f (19 + 21 * st + k)) (sa + 1)) (s_up (fun k => f (19 + 21 * st + k)) (21 - sa) sa); rw [← hd, ← hue]; unfold s_drw; first | (rw [if_neg (by omega)]; rfl) | (rw [if_pos (by omega)]; first | (rw [if_pos rfl]; done) | (rw [if_neg (by omega)]; rfl) | (congr 2; omega)))
              · refine lv_aload_n hx hb dX5_drafted_44 rfl (lvG hl rfl) ?_
                refine r_row hC hK hP dX5_drafted_45 ?_
                refine lv_iload_n hx hb dX5_drafted_48 rfl (lvG hl rfl) ?_
                refine lv_iload hx hb dX5_drafted_49 (lvG hl rfl) ?_
                refine n_iadd hC dX5_drafted_51 ?_
                refine r_ald (k := 19 + (21 * st) + u) hC hK hP (by omega) dX5_drafted_52 ?_
                refine z_if_ne (tgt := 62) hC dX5_drafted_53 (by decide) (fun zc53 => ?_) (fun zc53 => ?_)
                · have hue : u = s_up (fun k => f (19 + 21 * st + k)) (21 - sa) sa := by first | (rw [← hux, show 21 - u = 0 by omega]; rfl) | (rw [← hux, show 21 - u = (20 - u) + 1 by omega]; conv => { rhs; unfold s_up }; rw [if_neg zc53])
                  refine lv_iload hx hb dX5_drafted_62 (lvG hl rfl) ?_
                  refine n_if_lt (tgt := 81) hC dX5_drafted_64 (by omega) (by decide) (fun zc64 => ?_) (fun zc64 => ?_)
                  · refine lv_aload_n hx hb dX5_drafted_81 rfl (lvG hl rfl) ?_
                    refine r_row hC hK hP dX5_drafted_82 ?_
                    refine lv_iload_n hx hb dX5_drafted_85 rfl (lvG hl rfl) ?_
                    refine lv_iload hx hb dX5_drafted_86 (lvG hl rfl) ?_
                    refine n_if_ge (tgt := 96) hC dX5_drafted_88 (by omega) (by decide) (fun zc88 => ?_) (fun zc88 => ?_)
                    · refine lv_iload hx hb dX5_drafted_96 (lvG hl rfl) ?_
                      refine n_iadd hC dX5_drafted_98 ?_
                      refine r_ald (k := 19 + (21 * st) + z) hC hK hP (by omega) dX5_drafted_99 ?_
                      refine lv_iconst (v := nI 1) hx hb dX5_drafted_100 (by decide) ?_
                      refine lv_isub hx hb dX5_drafted_101 ?_
                      exact k_iret hC hr hlk dX5_drafted_102 (by show _ = s_drw (fun k => f (19 + 21 * st + k)) sa (s_dn (fun k => f (19 + 21 * st + k)) (sa + 1)) (s_up (fun k => f (19 + 21 * st + k)) (21 - sa) sa); rw [← hd, ← hue]; unfold s_drw; first | (rw [if_neg (by omega)]; rfl) | (rw [if_pos (by omega)]; first | (rw [if_pos rfl]; done) | (rw [if_neg (by omega)]; rfl) | (congr 2; omega)))
                    · refine lv_iload hx hb dX5_drafted_91 (lvG hl rfl) ?_
                      refine lv_goto (tgt := 98) hx hb dX5_drafted_93 (by decide) ?_
                      refine n_iadd hC dX5_drafted_98 ?_
                      refine r_ald (k := 19 + (21 * st) + u) hC hK hP (by omega) dX5_drafted_99 ?_
                      refine lv_iconst (v := nI 1) hx hb dX5_drafted_100 (by decide) ?_
                      refine lv_isub hx hb dX5_drafted_101 ?_
                      exact k_iret hC hr hlk dX5_drafted_102 (by show _ = s_drw (fun k => f (19 + 21 * st + k)) sa (s_dn (fun k => f (19 + 21 * st + k)) (sa + 1)) (s_up (fun k => f (19 + 21 * st + k)) (21 - sa) sa); rw [← hd, ← hue]; unfold s_drw; first | (rw [if_neg (by omega)]; rfl) | (rw [if_pos (by omega)]; first | (rw [if_pos rfl]; done) | (rw [if_neg (by omega)]; rfl) | (congr 2; omega)))
                  · refine lv_iload hx hb dX5_drafted_67 (lvG hl rfl) ?_
                    refine lv_bipush (v := nI 20) hx hb dX5_drafted_69 (by decide) ?_
                    refine n_icmp_gt (tgt := 81) hC dX5_drafted_71 (by omega) (by omega) (by decide) (fun zc71 => ?_) (fun zc71 => ?_)
                    · refine lv_aload_n hx hb dX5_drafted_81 rfl (lvG hl rfl) ?_
                      refine r_row hC hK hP dX5_drafted_82 ?_
                      refine lv_iload_n hx hb dX5_drafted_85 rfl (lvG hl rfl) ?_
                      refine lv_iload hx hb dX5_drafted_86 (lvG hl rfl) ?_
                      refine n_if_ge (tgt := 96) hC dX5_drafted_88 (by omega) (by decide) (fun zc88 => ?_) (fun zc88 => ?_)
                      · refine lv_iload hx hb dX5_drafted_96 (lvG hl rfl) ?_
                        refine n_iadd hC dX5_drafted_98 ?_
                        refine r_ald (k := 19 + (21 * st) + z) hC hK hP (by omega) dX5_drafted_99 ?_
                        refine lv_iconst (v := nI 1) hx hb dX5_drafted_100 (by decide) ?_
                        refine lv_isub hx hb dX5_drafted_101 ?_
                        exact k_iret hC hr hlk dX5_drafted_102 (by show _ = s_drw (fun k => f (19 + 21 * st + k)) sa (s_dn (fun k => f (19 + 21 * st + k)) (sa + 1)) (s_up (fun k => f (19 + 21 * st + k)) (21 - sa) sa); rw [← hd, ← hue]; unfold s_drw; first | (rw [if_neg (by omega)]; rfl) | (rw [if_pos (by omega)]; first | (rw [if_pos rfl]; done) | (rw [if_neg (by omega)]; rfl) | (congr 2; omega)))
                      · refine lv_iload hx hb dX5_drafted_91 (lvG hl rfl) ?_
                        refine lv_goto (tgt := 98) hx hb dX5_drafted_93 (by decide) ?_
                        refine n_iadd hC dX5_drafted_98 ?_
                        refine r_ald (k := 19 + (21 * st) + u) hC hK hP (by omega) dX5_drafted_99 ?_
                        refine lv_iconst (v := nI 1) hx hb dX5_drafted_100 (by decide) ?_
                        refine lv_isub hx hb dX5_drafted_101 ?_
                        exact k_iret hC hr hlk dX5_drafted_102 (by show _ = s_drw (fun k => f (19 + 21 * st + k)) sa (s_dn (fun k => f (19 + 21 * st + k)) (sa + 1)) (s_up (fun k => f (19 + 21 * st + k)) (21 - sa) sa); rw [← hd, ← hue]; unfold s_drw; first | (rw [if_neg (by omega)]; rfl) | (rw [if_pos (by omega)]; first | (rw [if_pos rfl]; done) | (rw [if_neg (by omega)]; rfl) | (congr 2; omega)))
                    · refine lv_iload hx hb dX5_drafted_74 (lvG hl rfl) ?_
                      refine lv_iload hx hb dX5_drafted_76 (lvG hl rfl) ?_
                      refine n_icmp_ne (tgt := 103) hC dX5_drafted_78 (by omega) (by omega) (by decide) (fun zc78 => ?_) (fun zc78 => ?_)
                      · refine lv_aload_n hx hb dX5_drafted_103 rfl (lvG hl rfl) ?_
                        refine r_row hC hK hP dX5_drafted_104 ?_
                        refine lv_iload_n hx hb dX5_drafted_107 rfl (lvG hl rfl) ?_
                        refine lv_iload hx hb dX5_drafted_108 (lvG hl rfl) ?_
                        refine n_iadd hC dX5_drafted_110 ?_
                        refine r_ald (k := 19 + (21 * st) + z) hC hK hP (by omega) dX5_drafted_111 ?_
                        refine lv_istore (lv' := [(6, .int (f (19 + (21 * st) + z))), (5, .int (nI u)), (4, .int (nI z)), (3, .int (nI (19 + (21 * st)))), (0, .ref o), (1, .int (nI st)), (2, .int (nI sa))]) hx hb dX5_drafted_112 hl (by decide) rfl (fun ls hl => ?_)
                        refine lv_iload hx hb dX5_drafted_114 (lvG hl rfl) ?_
                        refine lv_iconst (v := nI 1) hx hb dX5_drafted_116 (by decide) ?_
                        refine lv_isub hx hb dX5_drafted_117 ?_
                        refine lv_aload_n hx hb dX5_drafted_118 rfl (lvG hl rfl) ?_
                        refine r_row hC hK hP dX5_drafted_119 ?_
                        refine lv_iload_n hx hb dX5_drafted_122 rfl (lvG hl rfl) ?_
                        refine lv_iload hx hb dX5_drafted_123 (lvG hl rfl) ?_
                        refine n_iadd hC dX5_drafted_125 ?_
                        refine r_ald (k := 19 + (21 * st) + u) hC hK hP (by omega) dX5_drafted_126 ?_
                        refine lv_iload hx hb dX5_drafted_127 (lvG hl rfl) ?_
                        refine lv_isub hx hb dX5_drafted_129 ?_
                        refine lv_i2l (v := ((f (19 + (21 * st) + u)) - (f (19 + (21 * st) + z))).toInt64) hx hb dX5_drafted_130 rfl ?_
                        refine lv_iload_n hx hb dX5_drafted_131 rfl (lvG hl rfl) ?_
                        refine lv_iload hx hb dX5_drafted_132 (lvG hl rfl) ?_
                        refine n_isub hC dX5_drafted_134 (by omega) ?_
                        refine lv_i2l (v := (nI (sa - z)).toInt64) hx hb dX5_drafted_135 rfl ?_
                        refine lv_lmul hx hb dX5_drafted_136 ?_
                        refine lv_iload hx hb dX5_drafted_137 (lvG hl rfl) ?_
                        refine lv_iload hx hb dX5_drafted_139 (lvG hl rfl) ?_
                        refine n_isub hC dX5_drafted_141 (by omega) ?_
                        refine lv_i2l (v := (nI (u - z)).toInt64) hx hb dX5_drafted_142 rfl ?_
                        refine k_callPL (k_goS (rest := [.int ((f (19 + (21 * st) + z)) - (nI 1))]) hC hK (c_X5_quotient l g ((((f (19 + (21 * st) + u)) - (f (19 + (21 * st) + z))).toInt64) * ((nI (sa - z)).toInt64)) ((nI (u - z)).toInt64) (l_ne0 (by omega) (by omega))) L_X5_X5_quotient (⟨⟨Nat.le_of_ble_eq_true rfl, Nat.le_of_ble_eq_true rfl⟩, ⟨rfl, rfl⟩, ⟨Nat.le_of_ble_eq_true rfl, Nat.le_of_ble_eq_true rfl⟩⟩) (trivial) rfl hl.1 rfl (Nat.le_of_ble_eq_true rfl) dX5_drafted_143) ?_
                        refine lv_l2i (v := (s_quo ((((f (19 + (21 * st) + u)) - (f (19 + (21 * st) + z))).toInt64) * ((nI (sa - z)).toInt64)) ((nI (u - z)).toInt64)).toInt32) hx hb dX5_drafted_146 rfl ?_
                        refine lv_iadd hx hb dX5_drafted_147 ?_
                        exact k_iret hC hr hlk dX5_drafted_148 (by show _ = s_drw (fun k => f (19 + 21 * st + k)) sa (s_dn (fun k => f (19 + 21 * st + k)) (sa + 1)) (s_up (fun k => f (19 + 21 * st + k)) (21 - sa) sa); rw [← hd, ← hue]; unfold s_drw; first | (rw [if_neg (by omega)]; rfl) | (rw [if_pos (by omega)]; first | (rw [if_pos rfl]; done) | (rw [if_neg (by omega)]; rfl) | (congr 2; omega)))
                      · refine lv_aload_n hx hb dX5_drafted_81 rfl (lvG hl rfl) ?_
                        refine r_row hC hK hP dX5_drafted_82 ?_
                        refine lv_iload_n hx hb dX5_drafted_85 rfl (lvG hl rfl) ?_
                        refine lv_iload hx hb dX5_drafted_86 (lvG hl rfl) ?_
                        refine n_if_ge (tgt := 96) hC dX5_drafted_88 (by omega) (by decide) (fun zc88 => ?_) (fun zc88 => ?_)
                        · refine lv_iload hx hb dX5_drafted_96 (lvG hl rfl) ?_
                          refine n_iadd hC dX5_drafted_98 ?_
                          refine r_ald (k := 19 + (21 * st) + z) hC hK hP (by omega) dX5_drafted_99 ?_
                          refine lv_iconst (v := nI 1) hx hb dX5_drafted_100 (by decide) ?_
                          refine lv_isub hx hb dX5_drafted_101 ?_
                          exact k_iret hC hr hlk dX5_drafted_102 (by show _ = s_drw (fun k => f (19 + 21 * st + k)) sa (s_dn (fun k => f (19 + 21 * st + k)) (sa + 1)) (s_up (fun k => f (19 + 21 * st + k)) (21 - sa) sa); rw [← hd, ← hue]; unfold s_drw; first | (rw [if_neg (by omega)]; rfl) | (rw [if_pos (by omega)]; first | (rw [if_pos rfl]; done) | (rw [if_neg (by omega)]; rfl) | (congr 2; omega)))
                        · refine lv_iload hx hb dX5_drafted_91 (lvG hl rfl) ?_
                          refine lv_goto (tgt := 98) hx hb dX5_drafted_93 (by decide) ?_
                          refine n_iadd hC dX5_drafted_98 ?_
                          refine r_ald (k := 19 + (21 * st) + u) hC hK hP (by omega) dX5_drafted_99 ?_
                          refine lv_iconst (v := nI 1) hx hb dX5_drafted_100 (by decide) ?_
                          refine lv_isub hx hb dX5_drafted_101 ?_
                          exact k_iret hC hr hlk dX5_drafted_102 (by show _ = s_drw (fun k => f (19 + 21 * st + k)) sa (s_dn (fun k => f (19 + 21 * st + k)) (sa + 1)) (s_up (fun k => f (19 + 21 * st + k)) (21 - sa) sa); rw [← hd, ← hue]; unfold s_drw; first | (rw [if_neg (by omega)]; rfl) | (rw [if_pos (by omega)]; first | (rw [if_pos rfl]; done) | (rw [if_neg (by omega)]; rfl) | (congr 2; omega)))
                · refine n_iinc (lv' := [(5, .int (nI (u + 1))), (4, .int (nI z)), (3, .int (nI (19 + (21 * st)))), (0, .ref o), (1, .int (nI st)), (2, .int (nI sa))]) hC dX5_drafted_56 hl rfl (by decide) rfl (fun ls hl => ?_)
                  refine lv_goto (tgt := 37) hx hb dX5_drafted_59 (by decide) ?_
                  exact ih_9 (u + 1)  (by first | omega | assumption | rfl) (by rw [← hux, show 21 - u = (21 - (u + 1)) + 1 by omega]; conv => { rhs; unfold s_up }; rw [if_pos zc53]) (by omega) ls (lv_sub hl [0, 1, 2, 3, 4, 5] rfl)
          exact key_7 ((21 - sa) + 1) sa  (by first | rfl | omega | assumption) (by first | rfl | omega | assumption) (Nat.lt_succ_self _) ls (lv_sub hl [0, 1, 2, 3, 4, 5] rfl)
        · refine lv_iinc (v := (nI z) + (-1)) (lv' := [(4, .int ((nI z) + (-1))), (3, .int (nI (19 + (21 * st)))), (0, .ref o), (1, .int (nI st)), (2, .int (nI sa))]) hx hb dX5_drafted_28 hl (k := 0) rfl rfl (by decide) rfl (fun ls hl => ?_)
          refine lv_goto (tgt := 11) hx hb dX5_drafted_31 (by decide) ?_
          exact ih_3 z  (by first | omega | assumption | rfl) (by rw [← hxx]; conv => { rhs; unfold s_dn }; rw [if_pos zc25]) (by omega) ls (lv_sub hl [0, 1, 2, 3, 4] rfl)
  exact key_1 (((sa + 1)) + 1) (sa + 1)  (by first | rfl | omega | assumption) (by first | rfl | omega | assumption) (Nat.lt_succ_self _) ls (lv_sub hl [0, 1, 2, 3, 4] rfl)
abbrev s_okC (f : Nat → Int32) (v : Int32) : Prop := nI 0 ≤ v ∧ v ≤ f 61 - nI 1
theorem in_card {f : Nat → Int32} {cn : Nat} {v : Int32} (hcn : cn ≤ 10) (hc : f 61 = nI cn) (h : s_okC f v) : ∃ j : Nat, j < cn ∧ v = nI j := by
  obtain ⟨h1, h2⟩ := h
  rw [hc] at h2
  cases cn with
  | zero =>
    have h3 : nI 0 ≤ nI 0 - nI 1 := Int32.le_trans h1 h2
    exact absurd h3 (by decide)
  | succ k =>
    rw [show nI (k + 1) - nI 1 = nI k from nI_pred k] at h2
    obtain ⟨j, hj, e⟩ := in_nat (x := v) (n := k) (by omega) ⟨h1, h2⟩
    exact ⟨j, by omega, e⟩
abbrev s_pt (f : Nat → Int32) (j : Nat) : Nat → Int32 := fun k => f (62 + 44 * j + 2 + k)
set_option maxHeartbeats 4000000 in
set_option maxRecDepth 100000 in
theorem c_X5_isCard (l : Launch) (g : kG) (o : Nat) (q : Nat) (f : Nat → Int32) (n : Nat) (v : Int32) : PI l yX5_isCard cX5_isCard 2 (some .boolean) (rr 1 22) [.ref o, .int (v)] ((RP g o q f n)) g (if s_okC f v then 1 else 0) := by
  refine kOf (by decide) (Nat.le_of_ble_eq_true rfl) (fun p e s m below meth c ls hC hr hlk hin hK hP hl => ?_)
  have hx := hC.1
  have hb := hC.2.1
  have hml := hC.2.2.1
  have hown := hC.2.2.2.1
  have hts := hC.2.2.2.2
  have hl : lv_has ls 2 [(0, .ref o), (1, .int (v))] := hl
  refine lv_iload_n hx hb dX5_isCard_0 rfl (lvG hl rfl) ?_
  refine lv_iconst (v := nI 0) hx hb dX5_isCard_1 (by decide) ?_
  refine lv_aload_n hx hb dX5_isCard_2 rfl (lvG hl rfl) ?_
  refine r_row hC hK hP dX5_isCard_3 ?_
  refine lv_bipush (v := nI 61) hx hb dX5_isCard_6 (by decide) ?_
  refine r_ald (k := 61) hC hK hP (by omega) dX5_isCard_8 ?_
  refine lv_iconst (v := nI 1) hx hb dX5_isCard_9 (by decide) ?_
  refine lv_isub hx hb dX5_isCard_10 ?_
  refine k_callPI (k_goS (rest := []) hC hK (c_X5_in l g v (nI 0) ((f 61) - (nI 1))) L_X5_X5_in (⟨⟨Nat.le_of_ble_eq_true rfl, Nat.le_of_ble_eq_true rfl⟩, ⟨rfl, rfl⟩, ⟨Nat.le_of_ble_eq_true rfl, Nat.le_of_ble_eq_true rfl⟩⟩) (trivial) rfl hl.1 rfl (Nat.le_of_ble_eq_true rfl) dX5_isCard_11) ?_
  exact k_zret hC hr hlk dX5_isCard_14 k_narb (by first | rfl | grind [] | grind [nI])
theorem L_X5_X5_isCard : LnkV RX5 72 yX5_isCard cX5_isCard 2 (some .boolean) 1 := ⟨w_760, w_762, w_33, w_60, w_763, ⟨by decide +kernel, by decide +kernel⟩, by decide +kernel⟩
theorem L_X5_X5_endAt : LnkS RX5 46 yX5_endAt cX5_endAt 1 (some .int) 1 := ⟨w_733, w_734, w_60, w_735, ⟨by decide +kernel, by decide +kernel⟩, by decide +kernel⟩
set_option maxHeartbeats 4000000 in
set_option maxRecDepth 100000 in
theorem c_X5_end (l : Launch) (g : kG) (o : Nat) (q : Nat) (f : Nat → Int32) (n : Nat) (v : Int32) (cn : Nat) (hc : f 61 = nI cn) (hcn : cn ≤ 10) : PI l yX5_end cX5_end 2 (some .int) (rr 2 43) [.ref o, .int (v)] ((RP g o q f n)) g (if s_okC f v then f (62 + 44 * (v).toNatClampNeg) else cINV) := by
  refine kOf (by decide) (Nat.le_of_ble_eq_true rfl) (fun p e s m below meth c ls hC hr hlk hin hK hP hl => ?_)
  have hx := hC.1
  have hb := hC.2.1
  have hml := hC.2.2.1
  have hown := hC.2.2.2.1
  have hts := hC.2.2.2.2
  have hl : lv_has ls 2 [(0, .ref o), (1, .int (v))] := hl
  refine lv_aload_n hx hb dX5_end_0 rfl (lvG hl rfl) ?_
  refine lv_iload_n hx hb dX5_end_1 rfl (lvG hl rfl) ?_
  refine k_callPI (k_goV (rest := []) hC hK (c_X5_isCard l g o q f n v) L_X5_X5_isCard (⟨⟨Nat.le_of_ble_eq_true rfl, Nat.le_of_ble_eq_true rfl⟩, ⟨rfl, rfl⟩, ⟨Nat.le_of_ble_eq_true rfl, Nat.le_of_ble_eq_true rfl⟩⟩) (hP.recv hK) (hP) rfl hl.1 rfl (Nat.le_of_ble_eq_true rfl) dX5_end_2) ?_
  refine b_ifeq (tgt := 20) hC dX5_end_5 (by decide) (fun zc5 => ?_) (fun zc5 => ?_)
  · refine lv_ldc (v := (-2000000001 : Int32)) hx hb hown (hts _ w_669) dX5_end_20 ?_
    exact k_iret hC hr hlk dX5_end_22 (by first | (rw [if_neg zc5]) | (rw [if_pos zc5, e_j]))
  · obtain ⟨j, h_j, ev_j⟩ := in_card (v := v) hcn hc (zc5)
    have e_j : (v).toNatClampNeg = j := by rw [ev_j]; exact nI_clamp (by omega)
    have hl : lv_has ls 2 [(0, .ref o), (1, .int (nI j))] := lv_eq hl (by rw [ev_j])
    refine lv_aload_n hx hb dX5_end_8 rfl (lvG hl rfl) ?_
    refine r_row hC hK hP dX5_end_9 ?_
    refine lv_iload_n hx hb dX5_end_12 rfl (lvG hl rfl) ?_
    refine k_callPI (k_goS (rest := [.ref q]) hC hK (c_X5_endAt l g j) L_X5_X5_endAt (⟨⟨Nat.le_of_ble_eq_true rfl, Nat.le_of_ble_eq_true rfl⟩, ⟨rfl, rfl⟩, ⟨Nat.le_of_ble_eq_true rfl, Nat.le_of_ble_eq_true rfl⟩⟩) (trivial) rfl hl.1 rfl (Nat.le_of_ble_eq_true rfl) dX5_end_13) ?_
    refine r_ald (k := 62 + 44 * j) hC hK hP (by omega) dX5_end_16 ?_
    refine lv_goto (tgt := 22) hx hb dX5_end_17 (by decide) ?_
    exact k_iret hC hr hlk dX5_end_22 (by first | (rw [if_neg zc5]) | (rw [if_pos zc5, e_j]))
set_option maxHeartbeats 4000000 in
set_option maxRecDepth 100000 in
theorem c_X5_speed (l : Launch) (g : kG) (o : Nat) (q : Nat) (f : Nat → Int32) (n : Nat) (v : Int32) (cn : Nat) (hc : f 61 = nI cn) (hcn : cn ≤ 10) : PI l yX5_speed cX5_speed 2 (some .int) (rr 2 43) [.ref o, .int (v)] ((RP g o q f n)) g (if s_okC f v then f (62 + 44 * (v).toNatClampNeg + 1) else cINV) := by
  refine kOf (by decide) (Nat.le_of_ble_eq_true rfl) (fun p e s m below meth c ls hC hr hlk hin hK hP hl => ?_)
  have hx := hC.1
  have hb := hC.2.1
  have hml := hC.2.2.1
  have hown := hC.2.2.2.1
  have hts := hC.2.2.2.2
  have hl : lv_has ls 2 [(0, .ref o), (1, .int (v))] := hl
  refine lv_aload_n hx hb dX5_speed_0 rfl (lvG hl rfl) ?_
  refine lv_iload_n hx hb dX5_speed_1 rfl (lvG hl rfl) ?_
  refine k_callPI (k_goV (rest := []) hC hK (c_X5_isCard l g o q f n v) L_X5_X5_isCard (⟨⟨Nat.le_of_ble_eq_true rfl, Nat.le_of_ble_eq_true rfl⟩, ⟨rfl, rfl⟩, ⟨Nat.le_of_ble_eq_true rfl, Nat.le_of_ble_eq_true rfl⟩⟩) (hP.recv hK) (hP) rfl hl.1 rfl (Nat.le_of_ble_eq_true rfl) dX5_speed_2) ?_
  refine b_ifeq (tgt := 22) hC dX5_speed_5 (by decide) (fun zc5 => ?_) (fun zc5 => ?_)
  · refine lv_ldc (v := (-2000000001 : Int32)) hx hb hown (hts _ w_669) dX5_speed_22 ?_
    exact k_iret hC hr hlk dX5_speed_24 (by first | (rw [if_neg zc5]) | (rw [if_pos zc5, e_j]))
  · obtain ⟨j, h_j, ev_j⟩ := in_card (v := v) hcn hc (zc5)
    have e_j : (v).toNatClampNeg = j := by rw [ev_j]; exact nI_clamp (by omega)
    have hl : lv_has ls 2 [(0, .ref o), (1, .int (nI j))] := lv_eq hl (by rw [ev_j])
    refine lv_aload_n hx hb dX5_speed_8 rfl (lvG hl rfl) ?_
    refine r_row hC hK hP dX5_speed_9 ?_
    refine lv_iload_n hx hb dX5_speed_12 rfl (lvG hl rfl) ?_
    refine k_callPI (k_goS (rest := [.ref q]) hC hK (c_X5_endAt l g j) L_X5_X5_endAt (⟨⟨Nat.le_of_ble_eq_true rfl, Nat.le_of_ble_eq_true rfl⟩, ⟨rfl, rfl⟩, ⟨Nat.le_of_ble_eq_true rfl, Nat.le_of_ble_eq_true rfl⟩⟩) (trivial) rfl hl.1 rfl (Nat.le_of_ble_eq_true rfl) dX5_speed_13) ?_
    refine lv_iconst (v := nI 1) hx hb dX5_speed_16 (by decide) ?_
    refine n_iadd hC dX5_speed_17 ?_
    refine r_ald (k := 62 + 44 * j + 1) hC hK hP (by omega) dX5_speed_18 ?_
    refine lv_goto (tgt := 24) hx hb dX5_speed_19 (by decide) ?_
    exact k_iret hC hr hlk dX5_speed_24 (by first | (rw [if_neg zc5]) | (rw [if_pos zc5, e_j]))
theorem L_X5_X5_at : LnkS RX5 49 yX5_at cX5_at 1 (some .int) 1 := ⟨w_736, w_737, w_60, w_738, ⟨by decide +kernel, by decide +kernel⟩, by decide +kernel⟩
set_option maxHeartbeats 4000000 in
set_option maxRecDepth 100000 in
theorem c_X5_pressure (l : Launch) (g : kG) (o : Nat) (q : Nat) (f : Nat → Int32) (n : Nat) (v : Int32) (st : Int32) (sa : Int32) (cn : Nat) (hc : f 61 = nI cn) (hcn : cn ≤ 10) : PI l yX5_pressure cX5_pressure 4 (some .int) (rr 2 43) [.ref o, .int (v), .int (st), .int (sa)] ((RP g o q f n)) g (if s_okC f v ∧ (nI 0 ≤ st ∧ st ≤ nI 1) ∧ (nI 0 ≤ sa ∧ sa ≤ nI 20) then s_pt f (v).toNatClampNeg (21 * (st).toNatClampNeg + (sa).toNatClampNeg) else cINV) := by
  refine kOf (by decide) (Nat.le_of_ble_eq_true rfl) (fun p e s m below meth c ls hC hr hlk hin hK hP hl => ?_)
  have hx := hC.1
  have hb := hC.2.1
  have hml := hC.2.2.1
  have hown := hC.2.2.2.1
  have hts := hC.2.2.2.2
  have hl : lv_has ls 4 [(0, .ref o), (1, .int (v)), (2, .int (st)), (3, .int (sa))] := hl
  refine lv_aload_n hx hb dX5_pressure_0 rfl (lvG hl rfl) ?_
  refine lv_iload_n hx hb dX5_pressure_1 rfl (lvG hl rfl) ?_
  refine k_callPI (k_goV (rest := []) hC hK (c_X5_isCard l g o q f n v) L_X5_X5_isCard (⟨⟨Nat.le_of_ble_eq_true rfl, Nat.le_of_ble_eq_true rfl⟩, ⟨rfl, rfl⟩, ⟨Nat.le_of_ble_eq_true rfl, Nat.le_of_ble_eq_true rfl⟩⟩) (hP.recv hK) (hP) rfl hl.1 rfl (Nat.le_of_ble_eq_true rfl) dX5_pressure_2) ?_
  refine b_ifeq (tgt := 46) hC dX5_pressure_5 (by decide) (fun zc5 => ?_) (fun zc5 => ?_)
  · refine lv_ldc (v := (-2000000001 : Int32)) hx hb hown (hts _ w_669) dX5_pressure_46 ?_
    exact k_iret hC hr hlk dX5_pressure_48 (by first | (rw [if_pos ⟨zc5, zc14, zc24⟩, e_j, e_jt, e_ja, Nat.add_assoc (62 + 44 * j + 2)]) | (rw [if_neg (by grind)]))
  · refine lv_iload_n hx hb dX5_pressure_8 rfl (lvG hl rfl) ?_
    refine lv_iconst (v := nI 0) hx hb dX5_pressure_9 (by decide) ?_
    refine lv_iconst (v := nI 1) hx hb dX5_pressure_10 (by decide) ?_
    refine k_callPI (k_goS (rest := []) hC hK (c_X5_in l g st (nI 0) (nI 1)) L_X5_X5_in (⟨⟨Nat.le_of_ble_eq_true rfl, Nat.le_of_ble_eq_true rfl⟩, ⟨rfl, rfl⟩, ⟨Nat.le_of_ble_eq_true rfl, Nat.le_of_ble_eq_true rfl⟩⟩) (trivial) rfl hl.1 rfl (Nat.le_of_ble_eq_true rfl) dX5_pressure_11) ?_
    refine b_ifeq (tgt := 46) hC dX5_pressure_14 (by decide) (fun zc14 => ?_) (fun zc14 => ?_)
    · refine lv_ldc (v := (-2000000001 : Int32)) hx hb hown (hts _ w_669) dX5_pressure_46 ?_
      exact k_iret hC hr hlk dX5_pressure_48 (by first | (rw [if_pos ⟨zc5, zc14, zc24⟩, e_j, e_jt, e_ja, Nat.add_assoc (62 + 44 * j + 2)]) | (rw [if_neg (by grind)]))
    · refine lv_iload_n hx hb dX5_pressure_17 rfl (lvG hl rfl) ?_
      refine lv_iconst (v := nI 0) hx hb dX5_pressure_18 (by decide) ?_
      refine lv_bipush (v := nI 20) hx hb dX5_pressure_19 (by decide) ?_
      refine k_callPI (k_goS (rest := []) hC hK (c_X5_in l g sa (nI 0) (nI 20)) L_X5_X5_in (⟨⟨Nat.le_of_ble_eq_true rfl, Nat.le_of_ble_eq_true rfl⟩, ⟨rfl, rfl⟩, ⟨Nat.le_of_ble_eq_true rfl, Nat.le_of_ble_eq_true rfl⟩⟩) (trivial) rfl hl.1 rfl (Nat.le_of_ble_eq_true rfl) dX5_pressure_21) ?_
      refine b_ifeq (tgt := 46) hC dX5_pressure_24 (by decide) (fun zc24 => ?_) (fun zc24 => ?_)
      · refine lv_ldc (v := (-2000000001 : Int32)) hx hb hown (hts _ w_669) dX5_pressure_46 ?_
        exact k_iret hC hr hlk dX5_pressure_48 (by first | (rw [if_pos ⟨zc5, zc14, zc24⟩, e_j, e_jt, e_ja, Nat.add_assoc (62 + 44 * j + 2)]) | (rw [if_neg (by grind)]))
      · obtain ⟨j, h_j, ev_j⟩ := in_card (v := v) hcn hc (zc5)
        have e_j : (v).toNatClampNeg = j := by rw [ev_j]; exact nI_clamp (by omega)
        have hl : lv_has ls 4 [(0, .ref o), (1, .int (nI j)), (2, .int (st)), (3, .int (sa))] := lv_eq hl (by rw [ev_j])
        obtain ⟨jt, h_jt, ev_jt⟩ := in_nat (by decide) (zc14)
        have e_jt : (st).toNatClampNeg = jt := by rw [ev_jt]; exact nI_clamp (by omega)
        have hl : lv_has ls 4 [(0, .ref o), (1, .int (nI j)), (2, .int (nI jt)), (3, .int (sa))] := lv_eq hl (by rw [ev_jt])
        obtain ⟨ja, h_ja, ev_ja⟩ := in_nat (by decide) (zc24)
        have e_ja : (sa).toNatClampNeg = ja := by rw [ev_ja]; exact nI_clamp (by omega)
        have hl : lv_has ls 4 [(0, .ref o), (1, .int (nI j)), (2, .int (nI jt)), (3, .int (nI ja))] := lv_eq hl (by rw [ev_ja])
        refine lv_aload_n hx hb dX5_pressure_27 rfl (lvG hl rfl) ?_
        refine r_row hC hK hP dX5_pressure_28 ?_
        refine lv_iload_n hx hb dX5_pressure_31 rfl (lvG hl rfl) ?_
        refine k_callPI (k_goS (rest := [.ref q]) hC hK (c_X5_at l g j) L_X5_X5_at (⟨⟨Nat.le_of_ble_eq_true rfl, Nat.le_of_ble_eq_true rfl⟩, ⟨rfl, rfl⟩, ⟨Nat.le_of_ble_eq_true rfl, Nat.le_of_ble_eq_true rfl⟩⟩) (trivial) rfl hl.1 rfl (Nat.le_of_ble_eq_true rfl) dX5_pressure_32) ?_
        refine lv_bipush (v := nI 21) hx hb dX5_pressure_35 (by decide) ?_
        refine lv_iload_n hx hb dX5_pressure_37 rfl (lvG hl rfl) ?_
        refine n_imul hC dX5_pressure_38 ?_
        refine n_iadd hC dX5_pressure_39 ?_
        refine lv_iload_n hx hb dX5_pressure_40 rfl (lvG hl rfl) ?_
        refine n_iadd hC dX5_pressure_41 ?_
        refine r_ald (k := 62 + 44 * j + 2 + (21 * jt) + ja) hC hK hP (by omega) dX5_pressure_42 ?_
        refine lv_goto (tgt := 48) hx hb dX5_pressure_43 (by decide) ?_
        exact k_iret hC hr hlk dX5_pressure_48 (by first | (rw [if_pos ⟨zc5, zc14, zc24⟩, e_j, e_jt, e_ja, Nat.add_assoc (62 + 44 * j + 2)]) | (rw [if_neg (by grind)]))
theorem L_X5_X5_areaAt : LnkV RX5 88 yX5_areaAt cX5_areaAt 4 (some .int) 1 := ⟨w_788, w_790, w_35, w_60, w_791, ⟨by decide +kernel, by decide +kernel⟩, by decide +kernel⟩
set_option maxHeartbeats 4000000 in
set_option maxRecDepth 100000 in
theorem c_X5_area (l : Launch) (g : kG) (o : Nat) (q : Nat) (f : Nat → Int32) (n : Nat) (v : Int32) (cn : Nat) (hc : f 61 = nI cn) (hcn : cn ≤ 10) : PI l yX5_area cX5_area 2 (some .int) (rr 2 45) [.ref o, .int (v)] ((RP g o q f n)) g (if s_okC f v then s_ar (s_pt f (v).toNatClampNeg) 20 else cINV) := by
  refine kOf (by decide) (Nat.le_of_ble_eq_true rfl) (fun p e s m below meth c ls hC hr hlk hin hK hP hl => ?_)
  have hx := hC.1
  have hb := hC.2.1
  have hml := hC.2.2.1
  have hown := hC.2.2.2.1
  have hts := hC.2.2.2.2
  have hl : lv_has ls 2 [(0, .ref o), (1, .int (v))] := hl
  refine lv_aload_n hx hb dX5_area_0 rfl (lvG hl rfl) ?_
  refine lv_iload_n hx hb dX5_area_1 rfl (lvG hl rfl) ?_
  refine k_callPI (k_goV (rest := []) hC hK (c_X5_isCard l g o q f n v) L_X5_X5_isCard (⟨⟨Nat.le_of_ble_eq_true rfl, Nat.le_of_ble_eq_true rfl⟩, ⟨rfl, rfl⟩, ⟨Nat.le_of_ble_eq_true rfl, Nat.le_of_ble_eq_true rfl⟩⟩) (hP.recv hK) (hP) rfl hl.1 rfl (Nat.le_of_ble_eq_true rfl) dX5_area_2) ?_
  refine b_ifeq (tgt := 19) hC dX5_area_5 (by decide) (fun zc5 => ?_) (fun zc5 => ?_)
  · refine lv_ldc (v := (-2000000001 : Int32)) hx hb hown (hts _ w_669) dX5_area_19 ?_
    exact k_iret hC hr hlk dX5_area_21 (by first | (rw [if_neg zc5]) | (rw [if_pos zc5, e_j]))
  · obtain ⟨j, h_j, ev_j⟩ := in_card (v := v) hcn hc (zc5)
    have e_j : (v).toNatClampNeg = j := by rw [ev_j]; exact nI_clamp (by omega)
    have hl : lv_has ls 2 [(0, .ref o), (1, .int (nI j))] := lv_eq hl (by rw [ev_j])
    refine lv_aload_n hx hb dX5_area_8 rfl (lvG hl rfl) ?_
    refine lv_iload_n hx hb dX5_area_9 rfl (lvG hl rfl) ?_
    refine k_callPI (k_goS (rest := [.ref o]) hC hK (c_X5_at l g j) L_X5_X5_at (⟨⟨Nat.le_of_ble_eq_true rfl, Nat.le_of_ble_eq_true rfl⟩, ⟨rfl, rfl⟩, ⟨Nat.le_of_ble_eq_true rfl, Nat.le_of_ble_eq_true rfl⟩⟩) (trivial) rfl hl.1 rfl (Nat.le_of_ble_eq_true rfl) dX5_area_10) ?_
    refine k_callPI (k_goV (rest := []) hC hK (c_X5_areaAt l g o q f n (62 + 44 * j + 2) (by first | assumption | omega)) L_X5_X5_areaAt (⟨⟨Nat.le_of_ble_eq_true rfl, Nat.le_of_ble_eq_true rfl⟩, ⟨rfl, rfl⟩, ⟨Nat.le_of_ble_eq_true rfl, Nat.le_of_ble_eq_true rfl⟩⟩) (hP.recv hK) (hP) rfl hl.1 rfl (Nat.le_of_ble_eq_true rfl) dX5_area_13) ?_
    refine lv_goto (tgt := 21) hx hb dX5_area_16 (by decide) ?_
    exact k_iret hC hr hlk dX5_area_21 (by first | (rw [if_neg zc5]) | (rw [if_pos zc5, e_j]))
def s_part (x y : Int32) (P : Prop) [Decidable P] : Int32 := if nI 0 ≤ x ∧ nI 0 ≤ y then (if P then x + y else nI 0) else if x ≤ nI 0 ∧ y ≤ nI 0 then (if P then nI 0 else -x - y) else if nI 0 < x then (if P then x * x / (x + -y) else -y * -y / (x + -y)) else (if P then y * y / (y + -x) else -x * -x / (y + -x))
def rg (x : Int32) : Prop := -5000 ≤ x.toInt ∧ x.toInt ≤ 5000
theorem part_nz {x y : Int32} (hx : rg x) (hy : rg y) (h1 : nI 0 < x) (h2 : y < nI 0) : ¬ x + -y = 0 := by
  intro h
  have h3 := congrArg Int32.toInt h
  have hz : (nI 0).toInt = 0 := rfl
  rw [Int32.lt_iff_toInt_lt, hz] at h1 h2
  obtain ⟨a1, a2⟩ := hx
  obtain ⟨b1, b2⟩ := hy
  have hn : (-y).toInt = -y.toInt := fb_negI (by omega)
  rw [fb_addI (by omega) (by omega), hn] at h3
  have : (0 : Int32).toInt = 0 := rfl
  omega
def s_pa (p : Nat → Int32) (P : Prop) [Decidable P] : Nat → Int32
  | 0 => nI 0
  | k + 1 => s_pa p P k + s_part (s_df p k) (s_df p (k + 1)) P
set_option maxHeartbeats 4000000 in
set_option maxRecDepth 100000 in
theorem c_X5_part (l : Launch) (g : kG) (x : Int32) (y : Int32) (P : Prop) (dP : Decidable P) (hx0 : rg x) (hy0 : rg y) : PI l yX5_part cX5_part 5 (some .int) (rr 0 0) [.int (x), .int (y), .int (if P then 1 else 0)] ((fun _ => True)) g (s_part x y P) := by
  refine kOf (by decide) (Nat.le_of_ble_eq_true rfl) (fun p e s m below meth c ls hC hr hlk hin hK hP hl => ?_)
  have hx := hC.1
  have hb := hC.2.1
  have hml := hC.2.2.1
  have hown := hC.2.2.2.1
  have hts := hC.2.2.2.2
  have hl : lv_has ls 5 [(0, .int (x)), (1, .int (y)), (2, .int (if P then 1 else 0))] := hl
  refine lv_iload_n hx hb dX5_part_0 rfl (lvG hl rfl) ?_
  refine z_if_lt (tgt := 20) hC dX5_part_1 (by decide) (fun zc1 => ?_) (fun zc1 => ?_)
  · refine lv_iload_n hx hb dX5_part_20 rfl (lvG hl rfl) ?_
    refine z_if_gt (tgt := 41) hC dX5_part_21 (by decide) (fun zc21 => ?_) (fun zc21 => ?_)
    · refine lv_iload_n hx hb dX5_part_41 rfl (lvG hl rfl) ?_
      refine z_if_le (tgt := 49) hC dX5_part_42 (by decide) (fun zc42 => ?_) (fun zc42 => ?_)
      · refine lv_iload_n hx hb dX5_part_49 rfl (lvG hl rfl) ?_
        refine lv_istore_n (lv' := [(3, .int (y)), (0, .int (x)), (1, .int (y)), (2, .int (if P then 1 else 0))]) hx hb dX5_part_50 rfl hl (by decide) rfl (fun ls hl => ?_)
        refine lv_iload_n hx hb dX5_part_51 rfl (lvG hl rfl) ?_
        refine z_if_le (tgt := 60) hC dX5_part_52 (by decide) (fun zc52 => ?_) (fun zc52 => ?_)
        · refine lv_iload_n hx hb dX5_part_60 rfl (lvG hl rfl) ?_
          refine lv_ineg hx hb dX5_part_61 ?_
          refine lv_istore (lv' := [(4, .int (-x)), (3, .int (y)), (0, .int (x)), (1, .int (y)), (2, .int (if P then 1 else 0))]) hx hb dX5_part_62 hl (by decide) rfl (fun ls hl => ?_)
          refine lv_iload_n hx hb dX5_part_64 rfl (lvG hl rfl) ?_
          refine b_ifeq (tgt := 79) hC dX5_part_65 (by decide) (fun zc65 => ?_) (fun zc65 => ?_)
          · refine lv_iload hx hb dX5_part_79 (lvG hl rfl) ?_
            refine lv_iload hx hb dX5_part_81 (lvG hl rfl) ?_
            refine lv_imul hx hb dX5_part_83 ?_
            refine lv_iload_n hx hb dX5_part_84 rfl (lvG hl rfl) ?_
            refine lv_iload hx hb dX5_part_85 (lvG hl rfl) ?_
            refine lv_iadd hx hb dX5_part_87 ?_
            refine lv_idiv hx hb dX5_part_88 (by first | exact part_nz hx0 hy0 (by grind) (by grind) | exact part_nz hy0 hx0 (by grind) (by grind) | (exfalso; grind)) ?_
            exact k_iret hC hr hlk dX5_part_89 (by first | rfl | grind [s_part] | grind [nI, s_part])
          · refine lv_iload_n hx hb dX5_part_68 rfl (lvG hl rfl) ?_
            refine lv_iload_n hx hb dX5_part_69 rfl (lvG hl rfl) ?_
            refine lv_imul hx hb dX5_part_70 ?_
            refine lv_iload_n hx hb dX5_part_71 rfl (lvG hl rfl) ?_
            refine lv_iload hx hb dX5_part_72 (lvG hl rfl) ?_
            refine lv_iadd hx hb dX5_part_74 ?_
            refine lv_idiv hx hb dX5_part_75 (by first | exact part_nz hx0 hy0 (by grind) (by grind) | exact part_nz hy0 hx0 (by grind) (by grind) | (exfalso; grind)) ?_
            refine lv_goto (tgt := 89) hx hb dX5_part_76 (by decide) ?_
            exact k_iret hC hr hlk dX5_part_89 (by first | rfl | grind [s_part] | grind [nI, s_part])
        · refine lv_iload_n hx hb dX5_part_55 rfl (lvG hl rfl) ?_
          refine lv_ineg hx hb dX5_part_56 ?_
          refine lv_goto (tgt := 62) hx hb dX5_part_57 (by decide) ?_
          refine lv_istore (lv' := [(4, .int (-y)), (3, .int (y)), (0, .int (x)), (1, .int (y)), (2, .int (if P then 1 else 0))]) hx hb dX5_part_62 hl (by decide) rfl (fun ls hl => ?_)
          refine lv_iload_n hx hb dX5_part_64 rfl (lvG hl rfl) ?_
          refine b_ifeq (tgt := 79) hC dX5_part_65 (by decide) (fun zc65 => ?_) (fun zc65 => ?_)
          · refine lv_iload hx hb dX5_part_79 (lvG hl rfl) ?_
            refine lv_iload hx hb dX5_part_81 (lvG hl rfl) ?_
            refine lv_imul hx hb dX5_part_83 ?_
            refine lv_iload_n hx hb dX5_part_84 rfl (lvG hl rfl) ?_
            refine lv_iload hx hb dX5_part_85 (lvG hl rfl) ?_
            refine lv_iadd hx hb dX5_part_87 ?_
            refine lv_idiv hx hb dX5_part_88 (by first | exact part_nz hx0 hy0 (by grind) (by grind) | exact part_nz hy0 hx0 (by grind) (by grind) | (exfalso; grind)) ?_
            exact k_iret hC hr hlk dX5_part_89 (by first | rfl | grind [s_part] | grind [nI, s_part])
          · refine lv_iload_n hx hb dX5_part_68 rfl (lvG hl rfl) ?_
            refine lv_iload_n hx hb dX5_part_69 rfl (lvG hl rfl) ?_
            refine lv_imul hx hb dX5_part_70 ?_
            refine lv_iload_n hx hb dX5_part_71 rfl (lvG hl rfl) ?_
            refine lv_iload hx hb dX5_part_72 (lvG hl rfl) ?_
            refine lv_iadd hx hb dX5_part_74 ?_
            refine lv_idiv hx hb dX5_part_75 (by first | exact part_nz hx0 hy0 (by grind) (by grind) | exact part_nz hy0 hx0 (by grind) (by grind) | (exfalso; grind)) ?_
            refine lv_goto (tgt := 89) hx hb dX5_part_76 (by decide) ?_
            exact k_iret hC hr hlk dX5_part_89 (by first | rfl | grind [s_part] | grind [nI, s_part])
      · refine lv_iload_n hx hb dX5_part_45 rfl (lvG hl rfl) ?_
        refine lv_goto (tgt := 50) hx hb dX5_part_46 (by decide) ?_
        refine lv_istore_n (lv' := [(3, .int (x)), (0, .int (x)), (1, .int (y)), (2, .int (if P then 1 else 0))]) hx hb dX5_part_50 rfl hl (by decide) rfl (fun ls hl => ?_)
        refine lv_iload_n hx hb dX5_part_51 rfl (lvG hl rfl) ?_
        refine z_if_le (tgt := 60) hC dX5_part_52 (by decide) (fun zc52 => ?_) (fun zc52 => ?_)
        · refine lv_iload_n hx hb dX5_part_60 rfl (lvG hl rfl) ?_
          refine lv_ineg hx hb dX5_part_61 ?_
          refine lv_istore (lv' := [(4, .int (-x)), (3, .int (x)), (0, .int (x)), (1, .int (y)), (2, .int (if P then 1 else 0))]) hx hb dX5_part_62 hl (by decide) rfl (fun ls hl => ?_)
          refine lv_iload_n hx hb dX5_part_64 rfl (lvG hl rfl) ?_
          refine b_ifeq (tgt := 79) hC dX5_part_65 (by decide) (fun zc65 => ?_) (fun zc65 => ?_)
          · refine lv_iload hx hb dX5_part_79 (lvG hl rfl) ?_
            refine lv_iload hx hb dX5_part_81 (lvG hl rfl) ?_
            refine lv_imul hx hb dX5_part_83 ?_
            refine lv_iload_n hx hb dX5_part_84 rfl (lvG hl rfl) ?_
            refine lv_iload hx hb dX5_part_85 (lvG hl rfl) ?_
            refine lv_iadd hx hb dX5_part_87 ?_
            refine lv_idiv hx hb dX5_part_88 (by first | exact part_nz hx0 hy0 (by grind) (by grind) | exact part_nz hy0 hx0 (by grind) (by grind) | (exfalso; grind)) ?_
            exact k_iret hC hr hlk dX5_part_89 (by first | rfl | grind [s_part] | grind [nI, s_part])
          · refine lv_iload_n hx hb dX5_part_68 rfl (lvG hl rfl) ?_
            refine lv_iload_n hx hb dX5_part_69 rfl (lvG hl rfl) ?_
            refine lv_imul hx hb dX5_part_70 ?_
            refine lv_iload_n hx hb dX5_part_71 rfl (lvG hl rfl) ?_
            refine lv_iload hx hb dX5_part_72 (lvG hl rfl) ?_
            refine lv_iadd hx hb dX5_part_74 ?_
            refine lv_idiv hx hb dX5_part_75 (by first | exact part_nz hx0 hy0 (by grind) (by grind) | exact part_nz hy0 hx0 (by grind) (by grind) | (exfalso; grind)) ?_
            refine lv_goto (tgt := 89) hx hb dX5_part_76 (by decide) ?_
            exact k_iret hC hr hlk dX5_part_89 (by first | rfl | grind [s_part] | grind [nI, s_part])
        · refine lv_iload_n hx hb dX5_part_55 rfl (lvG hl rfl) ?_
          refine lv_ineg hx hb dX5_part_56 ?_
          refine lv_goto (tgt := 62) hx hb dX5_part_57 (by decide) ?_
          refine lv_istore (lv' := [(4, .int (-y)), (3, .int (x)), (0, .int (x)), (1, .int (y)), (2, .int (if P then 1 else 0))]) hx hb dX5_part_62 hl (by decide) rfl (fun ls hl => ?_)
          refine lv_iload_n hx hb dX5_part_64 rfl (lvG hl rfl) ?_
          refine b_ifeq (tgt := 79) hC dX5_part_65 (by decide) (fun zc65 => ?_) (fun zc65 => ?_)
          · refine lv_iload hx hb dX5_part_79 (lvG hl rfl) ?_
            refine lv_iload hx hb dX5_part_81 (lvG hl rfl) ?_
            refine lv_imul hx hb dX5_part_83 ?_
            refine lv_iload_n hx hb dX5_part_84 rfl (lvG hl rfl) ?_
            refine lv_iload hx hb dX5_part_85 (lvG hl rfl) ?_
            refine lv_iadd hx hb dX5_part_87 ?_
            refine lv_idiv hx hb dX5_part_88 (by first | exact part_nz hx0 hy0 (by grind) (by grind) | exact part_nz hy0 hx0 (by grind) (by grind) | (exfalso; grind)) ?_
            exact k_iret hC hr hlk dX5_part_89 (by first | rfl | grind [s_part] | grind [nI, s_part])
          · refine lv_iload_n hx hb dX5_part_68 rfl (lvG hl rfl) ?_
            refine lv_iload_n hx hb dX5_part_69 rfl (lvG hl rfl) ?_
            refine lv_imul hx hb dX5_part_70 ?_
            refine lv_iload_n hx hb dX5_part_71 rfl (lvG hl rfl) ?_
            refine lv_iload hx hb dX5_part_72 (lvG hl rfl) ?_
            refine lv_iadd hx hb dX5_part_74 ?_
            refine lv_idiv hx hb dX5_part_75 (by first | exact part_nz hx0 hy0 (by grind) (by grind) | exact part_nz hy0 hx0 (by grind) (by grind) | (exfalso; grind)) ?_
            refine lv_goto (tgt := 89) hx hb dX5_part_76 (by decide) ?_
            exact k_iret hC hr hlk dX5_part_89 (by first | rfl | grind [s_part] | grind [nI, s_part])
    · refine lv_iload_n hx hb dX5_part_24 rfl (lvG hl rfl) ?_
      refine z_if_gt (tgt := 41) hC dX5_part_25 (by decide) (fun zc25 => ?_) (fun zc25 => ?_)
      · refine lv_iload_n hx hb dX5_part_41 rfl (lvG hl rfl) ?_
        refine z_if_le (tgt := 49) hC dX5_part_42 (by decide) (fun zc42 => ?_) (fun zc42 => ?_)
        · refine lv_iload_n hx hb dX5_part_49 rfl (lvG hl rfl) ?_
          refine lv_istore_n (lv' := [(3, .int (y)), (0, .int (x)), (1, .int (y)), (2, .int (if P then 1 else 0))]) hx hb dX5_part_50 rfl hl (by decide) rfl (fun ls hl => ?_)
          refine lv_iload_n hx hb dX5_part_51 rfl (lvG hl rfl) ?_
          refine z_if_le (tgt := 60) hC dX5_part_52 (by decide) (fun zc52 => ?_) (fun zc52 => ?_)
          · refine lv_iload_n hx hb dX5_part_60 rfl (lvG hl rfl) ?_
            refine lv_ineg hx hb dX5_part_61 ?_
            refine lv_istore (lv' := [(4, .int (-x)), (3, .int (y)), (0, .int (x)), (1, .int (y)), (2, .int (if P then 1 else 0))]) hx hb dX5_part_62 hl (by decide) rfl (fun ls hl => ?_)
            refine lv_iload_n hx hb dX5_part_64 rfl (lvG hl rfl) ?_
            refine b_ifeq (tgt := 79) hC dX5_part_65 (by decide) (fun zc65 => ?_) (fun zc65 => ?_)
            · refine lv_iload hx hb dX5_part_79 (lvG hl rfl) ?_
              refine lv_iload hx hb dX5_part_81 (lvG hl rfl) ?_
              refine lv_imul hx hb dX5_part_83 ?_
              refine lv_iload_n hx hb dX5_part_84 rfl (lvG hl rfl) ?_
              refine lv_iload hx hb dX5_part_85 (lvG hl rfl) ?_
              refine lv_iadd hx hb dX5_part_87 ?_
              refine lv_idiv hx hb dX5_part_88 (by first | exact part_nz hx0 hy0 (by grind) (by grind) | exact part_nz hy0 hx0 (by grind) (by grind) | (exfalso; grind)) ?_
              exact k_iret hC hr hlk dX5_part_89 (by first | rfl | grind [s_part] | grind [nI, s_part])
            · refine lv_iload_n hx hb dX5_part_68 rfl (lvG hl rfl) ?_
              refine lv_iload_n hx hb dX5_part_69 rfl (lvG hl rfl) ?_
              refine lv_imul hx hb dX5_part_70 ?_
              refine lv_iload_n hx hb dX5_part_71 rfl (lvG hl rfl) ?_
              refine lv_iload hx hb dX5_part_72 (lvG hl rfl) ?_
              refine lv_iadd hx hb dX5_part_74 ?_
              refine lv_idiv hx hb dX5_part_75 (by first | exact part_nz hx0 hy0 (by grind) (by grind) | exact part_nz hy0 hx0 (by grind) (by grind) | (exfalso; grind)) ?_
              refine lv_goto (tgt := 89) hx hb dX5_part_76 (by decide) ?_
              exact k_iret hC hr hlk dX5_part_89 (by first | rfl | grind [s_part] | grind [nI, s_part])
          · refine lv_iload_n hx hb dX5_part_55 rfl (lvG hl rfl) ?_
            refine lv_ineg hx hb dX5_part_56 ?_
            refine lv_goto (tgt := 62) hx hb dX5_part_57 (by decide) ?_
            refine lv_istore (lv' := [(4, .int (-y)), (3, .int (y)), (0, .int (x)), (1, .int (y)), (2, .int (if P then 1 else 0))]) hx hb dX5_part_62 hl (by decide) rfl (fun ls hl => ?_)
            refine lv_iload_n hx hb dX5_part_64 rfl (lvG hl rfl) ?_
            refine b_ifeq (tgt := 79) hC dX5_part_65 (by decide) (fun zc65 => ?_) (fun zc65 => ?_)
            · refine lv_iload hx hb dX5_part_79 (lvG hl rfl) ?_
              refine lv_iload hx hb dX5_part_81 (lvG hl rfl) ?_
              refine lv_imul hx hb dX5_part_83 ?_
              refine lv_iload_n hx hb dX5_part_84 rfl (lvG hl rfl) ?_
              refine lv_iload hx hb dX5_part_85 (lvG hl rfl) ?_
              refine lv_iadd hx hb dX5_part_87 ?_
              refine lv_idiv hx hb dX5_part_88 (by first | exact part_nz hx0 hy0 (by grind) (by grind) | exact part_nz hy0 hx0 (by grind) (by grind) | (exfalso; grind)) ?_
              exact k_iret hC hr hlk dX5_part_89 (by first | rfl | grind [s_part] | grind [nI, s_part])
            · refine lv_iload_n hx hb dX5_part_68 rfl (lvG hl rfl) ?_
              refine lv_iload_n hx hb dX5_part_69 rfl (lvG hl rfl) ?_
              refine lv_imul hx hb dX5_part_70 ?_
              refine lv_iload_n hx hb dX5_part_71 rfl (lvG hl rfl) ?_
              refine lv_iload hx hb dX5_part_72 (lvG hl rfl) ?_
              refine lv_iadd hx hb dX5_part_74 ?_
              refine lv_idiv hx hb dX5_part_75 (by first | exact part_nz hx0 hy0 (by grind) (by grind) | exact part_nz hy0 hx0 (by grind) (by grind) | (exfalso; grind)) ?_
              refine lv_goto (tgt := 89) hx hb dX5_part_76 (by decide) ?_
              exact k_iret hC hr hlk dX5_part_89 (by first | rfl | grind [s_part] | grind [nI, s_part])
        · refine lv_iload_n hx hb dX5_part_45 rfl (lvG hl rfl) ?_
          refine lv_goto (tgt := 50) hx hb dX5_part_46 (by decide) ?_
          refine lv_istore_n (lv' := [(3, .int (x)), (0, .int (x)), (1, .int (y)), (2, .int (if P then 1 else 0))]) hx hb dX5_part_50 rfl hl (by decide) rfl (fun ls hl => ?_)
          refine lv_iload_n hx hb dX5_part_51 rfl (lvG hl rfl) ?_
          refine z_if_le (tgt := 60) hC dX5_part_52 (by decide) (fun zc52 => ?_) (fun zc52 => ?_)
          · refine lv_iload_n hx hb dX5_part_60 rfl (lvG hl rfl) ?_
            refine lv_ineg hx hb dX5_part_61 ?_
            refine lv_istore (lv' := [(4, .int (-x)), (3, .int (x)), (0, .int (x)), (1, .int (y)), (2, .int (if P then 1 else 0))]) hx hb dX5_part_62 hl (by decide) rfl (fun ls hl => ?_)
            refine lv_iload_n hx hb dX5_part_64 rfl (lvG hl rfl) ?_
            refine b_ifeq (tgt := 79) hC dX5_part_65 (by decide) (fun zc65 => ?_) (fun zc65 => ?_)
            · refine lv_iload hx hb dX5_part_79 (lvG hl rfl) ?_
              refine lv_iload hx hb dX5_part_81 (lvG hl rfl) ?_
              refine lv_imul hx hb dX5_part_83 ?_
              refine lv_iload_n hx hb dX5_part_84 rfl (lvG hl rfl) ?_
              refine lv_iload hx hb dX5_part_85 (lvG hl rfl) ?_
              refine lv_iadd hx hb dX5_part_87 ?_
              refine lv_idiv hx hb dX5_part_88 (by first | exact part_nz hx0 hy0 (by grind) (by grind) | exact part_nz hy0 hx0 (by grind) (by grind) | (exfalso; grind)) ?_
              exact k_iret hC hr hlk dX5_part_89 (by first | rfl | grind [s_part] | grind [nI, s_part])
            · refine lv_iload_n hx hb dX5_part_68 rfl (lvG hl rfl) ?_
              refine lv_iload_n hx hb dX5_part_69 rfl (lvG hl rfl) ?_
              refine lv_imul hx hb dX5_part_70 ?_
              refine lv_iload_n hx hb dX5_part_71 rfl (lvG hl rfl) ?_
              refine lv_iload hx hb dX5_part_72 (lvG hl rfl) ?_
              refine lv_iadd hx hb dX5_part_74 ?_
              refine lv_idiv hx hb dX5_part_75 (by first | exact part_nz hx0 hy0 (by grind) (by grind) | exact part_nz hy0 hx0 (by grind) (by grind) | (exfalso; grind)) ?_
              refine lv_goto (tgt := 89) hx hb dX5_part_76 (by decide) ?_
              exact k_iret hC hr hlk dX5_part_89 (by first | rfl | grind [s_part] | grind [nI, s_part])
          · refine lv_iload_n hx hb dX5_part_55 rfl (lvG hl rfl) ?_
            refine lv_ineg hx hb dX5_part_56 ?_
            refine lv_goto (tgt := 62) hx hb dX5_part_57 (by decide) ?_
            refine lv_istore (lv' := [(4, .int (-y)), (3, .int (x)), (0, .int (x)), (1, .int (y)), (2, .int (if P then 1 else 0))]) hx hb dX5_part_62 hl (by decide) rfl (fun ls hl => ?_)
            refine lv_iload_n hx hb dX5_part_64 rfl (lvG hl rfl) ?_
            refine b_ifeq (tgt := 79) hC dX5_part_65 (by decide) (fun zc65 => ?_) (fun zc65 => ?_)
            · refine lv_iload hx hb dX5_part_79 (lvG hl rfl) ?_
              refine lv_iload hx hb dX5_part_81 (lvG hl rfl) ?_
              refine lv_imul hx hb dX5_part_83 ?_
              refine lv_iload_n hx hb dX5_part_84 rfl (lvG hl rfl) ?_
              refine lv_iload hx hb dX5_part_85 (lvG hl rfl) ?_
              refine lv_iadd hx hb dX5_part_87 ?_
              refine lv_idiv hx hb dX5_part_88 (by first | exact part_nz hx0 hy0 (by grind) (by grind) | exact part_nz hy0 hx0 (by grind) (by grind) | (exfalso; grind)) ?_
              exact k_iret hC hr hlk dX5_part_89 (by first | rfl | grind [s_part] | grind [nI, s_part])
            · refine lv_iload_n hx hb dX5_part_68 rfl (lvG hl rfl) ?_
              refine lv_iload_n hx hb dX5_part_69 rfl (lvG hl rfl) ?_
              refine lv_imul hx hb dX5_part_70 ?_
              refine lv_iload_n hx hb dX5_part_71 rfl (lvG hl rfl) ?_
              refine lv_iload hx hb dX5_part_72 (lvG hl rfl) ?_
              refine lv_iadd hx hb dX5_part_74 ?_
              refine lv_idiv hx hb dX5_part_75 (by first | exact part_nz hx0 hy0 (by grind) (by grind) | exact part_nz hy0 hx0 (by grind) (by grind) | (exfalso; grind)) ?_
              refine lv_goto (tgt := 89) hx hb dX5_part_76 (by decide) ?_
              exact k_iret hC hr hlk dX5_part_89 (by first | rfl | grind [s_part] | grind [nI, s_part])
      · refine lv_iload_n hx hb dX5_part_28 rfl (lvG hl rfl) ?_
        refine b_ifeq (tgt := 36) hC dX5_part_29 (by decide) (fun zc29 => ?_) (fun zc29 => ?_)
        · refine lv_iload_n hx hb dX5_part_36 rfl (lvG hl rfl) ?_
          refine lv_ineg hx hb dX5_part_37 ?_
          refine lv_iload_n hx hb dX5_part_38 rfl (lvG hl rfl) ?_
          refine lv_isub hx hb dX5_part_39 ?_
          exact k_iret hC hr hlk dX5_part_40 (by first | rfl | grind [s_part] | grind [nI, s_part])
        · refine lv_iconst (v := nI 0) hx hb dX5_part_32 (by decide) ?_
          refine lv_goto (tgt := 40) hx hb dX5_part_33 (by decide) ?_
          exact k_iret hC hr hlk dX5_part_40 (by first | rfl | grind [s_part] | grind [nI, s_part])
  · refine lv_iload_n hx hb dX5_part_4 rfl (lvG hl rfl) ?_
    refine z_if_lt (tgt := 20) hC dX5_part_5 (by decide) (fun zc5 => ?_) (fun zc5 => ?_)
    · refine lv_iload_n hx hb dX5_part_20 rfl (lvG hl rfl) ?_
      refine z_if_gt (tgt := 41) hC dX5_part_21 (by decide) (fun zc21 => ?_) (fun zc21 => ?_)
      · refine lv_iload_n hx hb dX5_part_41 rfl (lvG hl rfl) ?_
        refine z_if_le (tgt := 49) hC dX5_part_42 (by decide) (fun zc42 => ?_) (fun zc42 => ?_)
        · refine lv_iload_n hx hb dX5_part_49 rfl (lvG hl rfl) ?_
          refine lv_istore_n (lv' := [(3, .int (y)), (0, .int (x)), (1, .int (y)), (2, .int (if P then 1 else 0))]) hx hb dX5_part_50 rfl hl (by decide) rfl (fun ls hl => ?_)
          refine lv_iload_n hx hb dX5_part_51 rfl (lvG hl rfl) ?_
          refine z_if_le (tgt := 60) hC dX5_part_52 (by decide) (fun zc52 => ?_) (fun zc52 => ?_)
          · refine lv_iload_n hx hb dX5_part_60 rfl (lvG hl rfl) ?_
            refine lv_ineg hx hb dX5_part_61 ?_
            refine lv_istore (lv' := [(4, .int (-x)), (3, .int (y)), (0, .int (x)), (1, .int (y)), (2, .int (if P then 1 else 0))]) hx hb dX5_part_62 hl (by decide) rfl (fun ls hl => ?_)
            refine lv_iload_n hx hb dX5_part_64 rfl (lvG hl rfl) ?_
            refine b_ifeq (tgt := 79) hC dX5_part_65 (by decide) (fun zc65 => ?_) (fun zc65 => ?_)
            · refine lv_iload hx hb dX5_part_79 (lvG hl rfl) ?_
              refine lv_iload hx hb dX5_part_81 (lvG hl rfl) ?_
              refine lv_imul hx hb dX5_part_83 ?_
              refine lv_iload_n hx hb dX5_part_84 rfl (lvG hl rfl) ?_
              refine lv_iload hx hb dX5_part_85 (lvG hl rfl) ?_
              refine lv_iadd hx hb dX5_part_87 ?_
              refine lv_idiv hx hb dX5_part_88 (by first | exact part_nz hx0 hy0 (by grind) (by grind) | exact part_nz hy0 hx0 (by grind) (by grind) | (exfalso; grind)) ?_
              exact k_iret hC hr hlk dX5_part_89 (by first | rfl | grind [s_part] | grind [nI, s_part])
            · refine lv_iload_n hx hb dX5_part_68 rfl (lvG hl rfl) ?_
              refine lv_iload_n hx hb dX5_part_69 rfl (lvG hl rfl) ?_
              refine lv_imul hx hb dX5_part_70 ?_
              refine lv_iload_n hx hb dX5_part_71 rfl (lvG hl rfl) ?_
              refine lv_iload hx hb dX5_part_72 (lvG hl rfl) ?_
              refine lv_iadd hx hb dX5_part_74 ?_
              refine lv_idiv hx hb dX5_part_75 (by first | exact part_nz hx0 hy0 (by grind) (by grind) | exact part_nz hy0 hx0 (by grind) (by grind) | (exfalso; grind)) ?_
              refine lv_goto (tgt := 89) hx hb dX5_part_76 (by decide) ?_
              exact k_iret hC hr hlk dX5_part_89 (by first | rfl | grind [s_part] | grind [nI, s_part])
          · refine lv_iload_n hx hb dX5_part_55 rfl (lvG hl rfl) ?_
            refine lv_ineg hx hb dX5_part_56 ?_
            refine lv_goto (tgt := 62) hx hb dX5_part_57 (by decide) ?_
            refine lv_istore (lv' := [(4, .int (-y)), (3, .int (y)), (0, .int (x)), (1, .int (y)), (2, .int (if P then 1 else 0))]) hx hb dX5_part_62 hl (by decide) rfl (fun ls hl => ?_)
            refine lv_iload_n hx hb dX5_part_64 rfl (lvG hl rfl) ?_
            refine b_ifeq (tgt := 79) hC dX5_part_65 (by decide) (fun zc65 => ?_) (fun zc65 => ?_)
            · refine lv_iload hx hb dX5_part_79 (lvG hl rfl) ?_
              refine lv_iload hx hb dX5_part_81 (lvG hl rfl) ?_
              refine lv_imul hx hb dX5_part_83 ?_
              refine lv_iload_n hx hb dX5_part_84 rfl (lvG hl rfl) ?_
              refine lv_iload hx hb dX5_part_85 (lvG hl rfl) ?_
              refine lv_iadd hx hb dX5_part_87 ?_
              refine lv_idiv hx hb dX5_part_88 (by first | exact part_nz hx0 hy0 (by grind) (by grind) | exact part_nz hy0 hx0 (by grind) (by grind) | (exfalso; grind)) ?_
              exact k_iret hC hr hlk dX5_part_89 (by first | rfl | grind [s_part] | grind [nI, s_part])
            · refine lv_iload_n hx hb dX5_part_68 rfl (lvG hl rfl) ?_
              refine lv_iload_n hx hb dX5_part_69 rfl (lvG hl rfl) ?_
              refine lv_imul hx hb dX5_part_70 ?_
              refine lv_iload_n hx hb dX5_part_71 rfl (lvG hl rfl) ?_
              refine lv_iload hx hb dX5_part_72 (lvG hl rfl) ?_
              refine lv_iadd hx hb dX5_part_74 ?_
              refine lv_idiv hx hb dX5_part_75 (by first | exact part_nz hx0 hy0 (by grind) (by grind) | exact part_nz hy0 hx0 (by grind) (by grind) | (exfalso; grind)) ?_
              refine lv_goto (tgt := 89) hx hb dX5_part_76 (by decide) ?_
              exact k_iret hC hr hlk dX5_part_89 (by first | rfl | grind [s_part] | grind [nI, s_part])
        · refine lv_iload_n hx hb dX5_part_45 rfl (lvG hl rfl) ?_
          refine lv_goto (tgt := 50) hx hb dX5_part_46 (by decide) ?_
          refine lv_istore_n (lv' := [(3, .int (x)), (0, .int (x)), (1, .int (y)), (2, .int (if P then 1 else 0))]) hx hb dX5_part_50 rfl hl (by decide) rfl (fun ls hl => ?_)
          refine lv_iload_n hx hb dX5_part_51 rfl (lvG hl rfl) ?_
          refine z_if_le (tgt := 60) hC dX5_part_52 (by decide) (fun zc52 => ?_) (fun zc52 => ?_)
          · refine lv_iload_n hx hb dX5_part_60 rfl (lvG hl rfl) ?_
            refine lv_ineg hx hb dX5_part_61 ?_
            refine lv_istore (lv' := [(4, .int (-x)), (3, .int (x)), (0, .int (x)), (1, .int (y)), (2, .int (if P then 1 else 0))]) hx hb dX5_part_62 hl (by decide) rfl (fun ls hl => ?_)
            refine lv_iload_n hx hb dX5_part_64 rfl (lvG hl rfl) ?_
            refine b_ifeq (tgt := 79) hC dX5_part_65 (by decide) (fun zc65 => ?_) (fun zc65 => ?_)
            · refine lv_iload hx hb dX5_part_79 (lvG hl rfl) ?_
              refine lv_iload hx hb dX5_part_81 (lvG hl rfl) ?_
              refine lv_imul hx hb dX5_part_83 ?_
              refine lv_iload_n hx hb dX5_part_84 rfl (lvG hl rfl) ?_
              refine lv_iload hx hb dX5_part_85 (lvG hl rfl) ?_
              refine lv_iadd hx hb dX5_part_87 ?_
              refine lv_idiv hx hb dX5_part_88 (by first | exact part_nz hx0 hy0 (by grind) (by grind) | exact part_nz hy0 hx0 (by grind) (by grind) | (exfalso; grind)) ?_
              exact k_iret hC hr hlk dX5_part_89 (by first | rfl | grind [s_part] | grind [nI, s_part])
            · refine lv_iload_n hx hb dX5_part_68 rfl (lvG hl rfl) ?_
              refine lv_iload_n hx hb dX5_part_69 rfl (lvG hl rfl) ?_
              refine lv_imul hx hb dX5_part_70 ?_
              refine lv_iload_n hx hb dX5_part_71 rfl (lvG hl rfl) ?_
              refine lv_iload hx hb dX5_part_72 (lvG hl rfl) ?_
              refine lv_iadd hx hb dX5_part_74 ?_
              refine lv_idiv hx hb dX5_part_75 (by first | exact part_nz hx0 hy0 (by grind) (by grind) | exact part_nz hy0 hx0 (by grind) (by grind) | (exfalso; grind)) ?_
              refine lv_goto (tgt := 89) hx hb dX5_part_76 (by decide) ?_
              exact k_iret hC hr hlk dX5_part_89 (by first | rfl | grind [s_part] | grind [nI, s_part])
          · refine lv_iload_n hx hb dX5_part_55 rfl (lvG hl rfl) ?_
            refine lv_ineg hx hb dX5_part_56 ?_
            refine lv_goto (tgt := 62) hx hb dX5_part_57 (by decide) ?_
            refine lv_istore (lv' := [(4, .int (-y)), (3, .int (x)), (0, .int (x)), (1, .int (y)), (2, .int (if P then 1 else 0))]) hx hb dX5_part_62 hl (by decide) rfl (fun ls hl => ?_)
            refine lv_iload_n hx hb dX5_part_64 rfl (lvG hl rfl) ?_
            refine b_ifeq (tgt := 79) hC dX5_part_65 (by decide) (fun zc65 => ?_) (fun zc65 => ?_)
            · refine lv_iload hx hb dX5_part_79 (lvG hl rfl) ?_
              refine lv_iload hx hb dX5_part_81 (lvG hl rfl) ?_
              refine lv_imul hx hb dX5_part_83 ?_
              refine lv_iload_n hx hb dX5_part_84 rfl (lvG hl rfl) ?_
              refine lv_iload hx hb dX5_part_85 (lvG hl rfl) ?_
              refine lv_iadd hx hb dX5_part_87 ?_
              refine lv_idiv hx hb dX5_part_88 (by first | exact part_nz hx0 hy0 (by grind) (by grind) | exact part_nz hy0 hx0 (by grind) (by grind) | (exfalso; grind)) ?_
              exact k_iret hC hr hlk dX5_part_89 (by first | rfl | grind [s_part] | grind [nI, s_part])
            · refine lv_iload_n hx hb dX5_part_68 rfl (lvG hl rfl) ?_
              refine lv_iload_n hx hb dX5_part_69 rfl (lvG hl rfl) ?_
              refine lv_imul hx hb dX5_part_70 ?_
              refine lv_iload_n hx hb dX5_part_71 rfl (lvG hl rfl) ?_
              refine lv_iload hx hb dX5_part_72 (lvG hl rfl) ?_
              refine lv_iadd hx hb dX5_part_74 ?_
              refine lv_idiv hx hb dX5_part_75 (by first | exact part_nz hx0 hy0 (by grind) (by grind) | exact part_nz hy0 hx0 (by grind) (by grind) | (exfalso; grind)) ?_
              refine lv_goto (tgt := 89) hx hb dX5_part_76 (by decide) ?_
              exact k_iret hC hr hlk dX5_part_89 (by first | rfl | grind [s_part] | grind [nI, s_part])
      · refine lv_iload_n hx hb dX5_part_24 rfl (lvG hl rfl) ?_
        refine z_if_gt (tgt := 41) hC dX5_part_25 (by decide) (fun zc25 => ?_) (fun zc25 => ?_)
        · refine lv_iload_n hx hb dX5_part_41 rfl (lvG hl rfl) ?_
          refine z_if_le (tgt := 49) hC dX5_part_42 (by decide) (fun zc42 => ?_) (fun zc42 => ?_)
          · refine lv_iload_n hx hb dX5_part_49 rfl (lvG hl rfl) ?_
            refine lv_istore_n (lv' := [(3, .int (y)), (0, .int (x)), (1, .int (y)), (2, .int (if P then 1 else 0))]) hx hb dX5_part_50 rfl hl (by decide) rfl (fun ls hl => ?_)
            refine lv_iload_n hx hb dX5_part_51 rfl (lvG hl rfl) ?_
            refine z_if_le (tgt := 60) hC dX5_part_52 (by decide) (fun zc52 => ?_) (fun zc52 => ?_)
            · refine lv_iload_n hx hb dX5_part_60 rfl (lvG hl rfl) ?_
              refine lv_ineg hx hb dX5_part_61 ?_
              refine lv_istore (lv' := [(4, .int (-x)), (3, .int (y)), (0, .int (x)), (1, .int (y)), (2, .int (if P then 1 else 0))]) hx hb dX5_part_62 hl (by decide) rfl (fun ls hl => ?_)
              refine lv_iload_n hx hb dX5_part_64 rfl (lvG hl rfl) ?_
              refine b_ifeq (tgt := 79) hC dX5_part_65 (by decide) (fun zc65 => ?_) (fun zc65 => ?_)
              · refine lv_iload hx hb dX5_part_79 (lvG hl rfl) ?_
                refine lv_iload hx hb dX5_part_81 (lvG hl rfl) ?_
                refine lv_imul hx hb dX5_part_83 ?_
                refine lv_iload_n hx hb dX5_part_84 rfl (lvG hl rfl) ?_
                refine lv_iload hx hb dX5_part_85 (lvG hl rfl) ?_
                refine lv_iadd hx hb dX5_part_87 ?_
                refine lv_idiv hx hb dX5_part_88 (by first | exact part_nz hx0 hy0 (by grind) (by grind) | exact part_nz hy0 hx0 (by grind) (by grind) | (exfalso; grind)) ?_
                exact k_iret hC hr hlk dX5_part_89 (by first | rfl | grind [s_part] | grind [nI, s_part])
              · refine lv_iload_n hx hb dX5_part_68 rfl (lvG hl rfl) ?_
                refine lv_iload_n hx hb dX5_part_69 rfl (lvG hl rfl) ?_
                refine lv_imul hx hb dX5_part_70 ?_
                refine lv_iload_n hx hb dX5_part_71 rfl (lvG hl rfl) ?_
                refine lv_iload hx hb dX5_part_72 (lvG hl rfl) ?_
                refine lv_iadd hx hb dX5_part_74 ?_
                refine lv_idiv hx hb dX5_part_75 (by first | exact part_nz hx0 hy0 (by grind) (by grind) | exact part_nz hy0 hx0 (by grind) (by grind) | (exfalso; grind)) ?_
                refine lv_goto (tgt := 89) hx hb dX5_part_76 (by decide) ?_
                exact k_iret hC hr hlk dX5_part_89 (by first | rfl | grind [s_part] | grind [nI, s_part])
            · refine lv_iload_n hx hb dX5_part_55 rfl (lvG hl rfl) ?_
              refine lv_ineg hx hb dX5_part_56 ?_
              refine lv_goto (tgt := 62) hx hb dX5_part_57 (by decide) ?_
              refine lv_istore (lv' := [(4, .int (-y)), (3, .int (y)), (0, .int (x)), (1, .int (y)), (2, .int (if P then 1 else 0))]) hx hb dX5_part_62 hl (by decide) rfl (fun ls hl => ?_)
              refine lv_iload_n hx hb dX5_part_64 rfl (lvG hl rfl) ?_
              refine b_ifeq (tgt := 79) hC dX5_part_65 (by decide) (fun zc65 => ?_) (fun zc65 => ?_)
              · refine lv_iload hx hb dX5_part_79 (lvG hl rfl) ?_
                refine lv_iload hx hb dX5_part_81 (lvG hl rfl) ?_
                refine lv_imul hx hb dX5_part_83 ?_
                refine lv_iload_n hx hb dX5_part_84 rfl (lvG hl rfl) ?_
                refine lv_iload hx hb dX5_part_85 (lvG hl rfl) ?_
                refine lv_iadd hx hb dX5_part_87 ?_
                refine lv_idiv hx hb dX5_part_88 (by first | exact part_nz hx0 hy0 (by grind) (by grind) | exact part_nz hy0 hx0 (by grind) (by grind) | (exfalso; grind)) ?_
                exact k_iret hC hr hlk dX5_part_89 (by first | rfl | grind [s_part] | grind [nI, s_part])
              · refine lv_iload_n hx hb dX5_part_68 rfl (lvG hl rfl) ?_
                refine lv_iload_n hx hb dX5_part_69 rfl (lvG hl rfl) ?_
                refine lv_imul hx hb dX5_part_70 ?_
                refine lv_iload_n hx hb dX5_part_71 rfl (lvG hl rfl) ?_
                refine lv_iload hx hb dX5_part_72 (lvG hl rfl) ?_
                refine lv_iadd hx hb dX5_part_74 ?_
                refine lv_idiv hx hb dX5_part_75 (by first | exact part_nz hx0 hy0 (by grind) (by grind) | exact part_nz hy0 hx0 (by grind) (by grind) | (exfalso; grind)) ?_
                refine lv_goto (tgt := 89) hx hb dX5_part_76 (by decide) ?_
                exact k_iret hC hr hlk dX5_part_89 (by first | rfl | grind [s_part] | grind [nI, s_part])
          · refine lv_iload_n hx hb dX5_part_45 rfl (lvG hl rfl) ?_
            refine lv_goto (tgt := 50) hx hb dX5_part_46 (by decide) ?_
            refine lv_istore_n (lv' := [(3, .int (x)), (0, .int (x)), (1, .int (y)), (2, .int (if P then 1 else 0))]) hx hb dX5_part_50 rfl hl (by decide) rfl (fun ls hl => ?_)
            refine lv_iload_n hx hb dX5_part_51 rfl (lvG hl rfl) ?_
            refine z_if_le (tgt := 60) hC dX5_part_52 (by decide) (fun zc52 => ?_) (fun zc52 => ?_)
            · refine lv_iload_n hx hb dX5_part_60 rfl (lvG hl rfl) ?_
              refine lv_ineg hx hb dX5_part_61 ?_
              refine lv_istore (lv' := [(4, .int (-x)), (3, .int (x)), (0, .int (x)), (1, .int (y)), (2, .int (if P then 1 else 0))]) hx hb dX5_part_62 hl (by decide) rfl (fun ls hl => ?_)
              refine lv_iload_n hx hb dX5_part_64 rfl (lvG hl rfl) ?_
              refine b_ifeq (tgt := 79) hC dX5_part_65 (by decide) (fun zc65 => ?_) (fun zc65 => ?_)
              · refine lv_iload hx hb dX5_part_79 (lvG hl rfl) ?_
                refine lv_iload hx hb dX5_part_81 (lvG hl rfl) ?_
                refine lv_imul hx hb dX5_part_83 ?_
                refine lv_iload_n hx hb dX5_part_84 rfl (lvG hl rfl) ?_
                refine lv_iload hx hb dX5_part_85 (lvG hl rfl) ?_
                refine lv_iadd hx hb dX5_part_87 ?_
                refine lv_idiv hx hb dX5_part_88 (by first | exact part_nz hx0 hy0 (by grind) (by grind) | exact part_nz hy0 hx0 (by grind) (by grind) | (exfalso; grind)) ?_
                exact k_iret hC hr hlk dX5_part_89 (by first | rfl | grind [s_part] | grind [nI, s_part])
              · refine lv_iload_n hx hb dX5_part_68 rfl (lvG hl rfl) ?_
                refine lv_iload_n hx hb dX5_part_69 rfl (lvG hl rfl) ?_
                refine lv_imul hx hb dX5_part_70 ?_
                refine lv_iload_n hx hb dX5_part_71 rfl (lvG hl rfl) ?_
                refine lv_iload hx hb dX5_part_72 (lvG hl rfl) ?_
                refine lv_iadd hx hb dX5_part_74 ?_
                refine lv_idiv hx hb dX5_part_75 (by first | exact part_nz hx0 hy0 (by grind) (by grind) | exact part_nz hy0 hx0 (by grind) (by grind) | (exfalso; grind)) ?_
                refine lv_goto (tgt := 89) hx hb dX5_part_76 (by decide) ?_
                exact k_iret hC hr hlk dX5_part_89 (by first | rfl | grind [s_part] | grind [nI, s_part])
            · refine lv_iload_n hx hb dX5_part_55 rfl (lvG hl rfl) ?_
              refine lv_ineg hx hb dX5_part_56 ?_
              refine lv_goto (tgt := 62) hx hb dX5_part_57 (by decide) ?_
              refine lv_istore (lv' := [(4, .int (-y)), (3, .int (x)), (0, .int (x)), (1, .int (y)), (2, .int (if P then 1 else 0))]) hx hb dX5_part_62 hl (by decide) rfl (fun ls hl => ?_)
              refine lv_iload_n hx hb dX5_part_64 rfl (lvG hl rfl) ?_
              refine b_ifeq (tgt := 79) hC dX5_part_65 (by decide) (fun zc65 => ?_) (fun zc65 => ?_)
              · refine lv_iload hx hb dX5_part_79 (lvG hl rfl) ?_
                refine lv_iload hx hb dX5_part_81 (lvG hl rfl) ?_
                refine lv_imul hx hb dX5_part_83 ?_
                refine lv_iload_n hx hb dX5_part_84 rfl (lvG hl rfl) ?_
                refine lv_iload hx hb dX5_part_85 (lvG hl rfl) ?_
                refine lv_iadd hx hb dX5_part_87 ?_
                refine lv_idiv hx hb dX5_part_88 (by first | exact part_nz hx0 hy0 (by grind) (by grind) | exact part_nz hy0 hx0 (by grind) (by grind) | (exfalso; grind)) ?_
                exact k_iret hC hr hlk dX5_part_89 (by first | rfl | grind [s_part] | grind [nI, s_part])
              · refine lv_iload_n hx hb dX5_part_68 rfl (lvG hl rfl) ?_
                refine lv_iload_n hx hb dX5_part_69 rfl (lvG hl rfl) ?_
                refine lv_imul hx hb dX5_part_70 ?_
                refine lv_iload_n hx hb dX5_part_71 rfl (lvG hl rfl) ?_
                refine lv_iload hx hb dX5_part_72 (lvG hl rfl) ?_
                refine lv_iadd hx hb dX5_part_74 ?_
                refine lv_idiv hx hb dX5_part_75 (by first | exact part_nz hx0 hy0 (by grind) (by grind) | exact part_nz hy0 hx0 (by grind) (by grind) | (exfalso; grind)) ?_
                refine lv_goto (tgt := 89) hx hb dX5_part_76 (by decide) ?_
                exact k_iret hC hr hlk dX5_part_89 (by first | rfl | grind [s_part] | grind [nI, s_part])
        · refine lv_iload_n hx hb dX5_part_28 rfl (lvG hl rfl) ?_
          refine b_ifeq (tgt := 36) hC dX5_part_29 (by decide) (fun zc29 => ?_) (fun zc29 => ?_)
          · refine lv_iload_n hx hb dX5_part_36 rfl (lvG hl rfl) ?_
            refine lv_ineg hx hb dX5_part_37 ?_
            refine lv_iload_n hx hb dX5_part_38 rfl (lvG hl rfl) ?_
            refine lv_isub hx hb dX5_part_39 ?_
            exact k_iret hC hr hlk dX5_part_40 (by first | rfl | grind [s_part] | grind [nI, s_part])
          · refine lv_iconst (v := nI 0) hx hb dX5_part_32 (by decide) ?_
            refine lv_goto (tgt := 40) hx hb dX5_part_33 (by decide) ?_
            exact k_iret hC hr hlk dX5_part_40 (by first | rfl | grind [s_part] | grind [nI, s_part])
    · refine lv_iload_n hx hb dX5_part_8 rfl (lvG hl rfl) ?_
      refine b_ifeq (tgt := 18) hC dX5_part_9 (by decide) (fun zc9 => ?_) (fun zc9 => ?_)
      · refine lv_iconst (v := nI 0) hx hb dX5_part_18 (by decide) ?_
        exact k_iret hC hr hlk dX5_part_19 (by first | rfl | grind [s_part] | grind [nI, s_part])
      · refine lv_iload_n hx hb dX5_part_12 rfl (lvG hl rfl) ?_
        refine lv_iload_n hx hb dX5_part_13 rfl (lvG hl rfl) ?_
        refine lv_iadd hx hb dX5_part_14 ?_
        refine lv_goto (tgt := 19) hx hb dX5_part_15 (by decide) ?_
        exact k_iret hC hr hlk dX5_part_19 (by first | rfl | grind [s_part] | grind [nI, s_part])
theorem L_X5_X5_part : LnkS RX5 82 yX5_part cX5_part 5 (some .int) 3 := ⟨w_804, w_805, w_60, w_806, ⟨by decide +kernel, by decide +kernel⟩, by decide +kernel⟩
set_option maxHeartbeats 4000000 in
set_option maxRecDepth 100000 in
theorem c_X5_parts (l : Launch) (g : kG) (o : Nat) (q : Nat) (f : Nat → Int32) (n : Nat) (a : Nat) (P : Prop) (dP : Decidable P) (h : a + 42 ≤ 2552) (hd : ∀ k, k ≤ 20 → rg (s_df (fun k => f (a + k)) k)) : PI l yX5_parts cX5_parts 5 (some .int) (rr 1 24) [.ref o, .int (nI a), .int (if P then 1 else 0)] ((RP g o q f n)) g (s_pa (fun k => f (a + k)) P 20) := by
  refine kOf (by decide) (Nat.le_of_ble_eq_true rfl) (fun p e s m below meth c ls hC hr hlk hin hK hP hl => ?_)
  have hx := hC.1
  have hb := hC.2.1
  have hml := hC.2.2.1
  have hown := hC.2.2.2.1
  have hts := hC.2.2.2.2
  have hl : lv_has ls 5 [(0, .ref o), (1, .int (nI a)), (2, .int (if P then 1 else 0))] := hl
  refine lv_iconst (v := nI 0) hx hb dX5_parts_0 (by decide) ?_
  refine lv_istore_n (lv' := [(3, .int (nI 0)), (0, .ref o), (1, .int (nI a)), (2, .int (if P then 1 else 0))]) hx hb dX5_parts_1 rfl hl (by decide) rfl (fun ls hl => ?_)
  refine lv_iconst (v := nI 0) hx hb dX5_parts_2 (by decide) ?_
  refine lv_istore (lv' := [(4, .int (nI 0)), (3, .int (nI 0)), (0, .ref o), (1, .int (nI a)), (2, .int (if P then 1 else 0))]) hx hb dX5_parts_3 hl (by decide) rfl (fun ls hl => ?_)
  have key_1 : ∀ (k_2 : Nat) (i : Nat) (sm : Int32)  (hi : i ≤ 20) (hs : sm = s_pa (fun k => f (a + k)) P i) (hk_k_2 : 20 - i < k_2) (ls : Array Slot) (hl : lv_has ls 5 [(4, .int (nI i)), (3, .int (sm)), (0, .ref o), (1, .int (nI a)), (2, .int (if P then 1 else 0))]), W p l e (rr 1 24) s m [.ref o, .int (nI a), .int (if P then 1 else 0)].toArray below meth c s.heap [] 0 0 (MQ below (vp_Si (fun r => r = s_pa (fun k => f (a + k)) P 20)) [.ref o, .int (nI a), .int (if P then 1 else 0)].toArray s 0 0 (fun _ => False)) (F0 m 5 ls ([])) := by
    intro k_2
    induction k_2 with
    | zero => intro i sm hi hs hk_k_2 ls hl; exact absurd hk_k_2 (Nat.not_lt_zero _)
    | succ k_2 ih_3 =>
      intro i sm hi hs hk_k_2 ls hl
      refine lv_iload hx hb dX5_parts_5 (lvG hl rfl) ?_
      refine lv_bipush (v := nI 20) hx hb dX5_parts_7 (by decide) ?_
      refine n_icmp_ge (tgt := 41) hC dX5_parts_9 (by omega) (by omega) (by decide) (fun zc9 => ?_) (fun zc9 => ?_)
      · refine lv_iload_n hx hb dX5_parts_41 rfl (lvG hl rfl) ?_
        exact k_iret hC hr hlk dX5_parts_42 (by rw [hs, show i = 20 by omega])
      · refine lv_iload_n hx hb dX5_parts_12 rfl (lvG hl rfl) ?_
        refine lv_aload_n hx hb dX5_parts_13 rfl (lvG hl rfl) ?_
        refine lv_iload_n hx hb dX5_parts_14 rfl (lvG hl rfl) ?_
        refine lv_iload hx hb dX5_parts_15 (lvG hl rfl) ?_
        refine k_callPI (k_goV (rest := [.int (sm)]) hC hK (c_X5_difference l g o q f n a i (by first | assumption | omega)) L_X5_X5_difference (⟨⟨Nat.le_of_ble_eq_true rfl, Nat.le_of_ble_eq_true rfl⟩, ⟨rfl, rfl⟩, ⟨Nat.le_of_ble_eq_true rfl, Nat.le_of_ble_eq_true rfl⟩⟩) (hP.recv hK) (hP) rfl hl.1 rfl (Nat.le_of_ble_eq_true rfl) dX5_parts_17) ?_
        refine lv_aload_n hx hb dX5_parts_20 rfl (lvG hl rfl) ?_
        refine lv_iload_n hx hb dX5_parts_21 rfl (lvG hl rfl) ?_
        refine lv_iload hx hb dX5_parts_22 (lvG hl rfl) ?_
        refine lv_iconst (v := nI 1) hx hb dX5_parts_24 (by decide) ?_
        refine n_iadd hC dX5_parts_25 ?_
        refine k_callPI (k_goV (rest := [.int (s_df (fun k => f (a + k)) i), .int (sm)]) hC hK (c_X5_difference l g o q f n a (i + 1) (by first | assumption | omega)) L_X5_X5_difference (⟨⟨Nat.le_of_ble_eq_true rfl, Nat.le_of_ble_eq_true rfl⟩, ⟨rfl, rfl⟩, ⟨Nat.le_of_ble_eq_true rfl, Nat.le_of_ble_eq_true rfl⟩⟩) (hP.recv hK) (hP) rfl hl.1 rfl (Nat.le_of_ble_eq_true rfl) dX5_parts_26) ?_
        refine lv_iload_n hx hb dX5_parts_29 rfl (lvG hl rfl) ?_
        refine k_callPI (k_goS (rest := [.int (sm)]) hC hK (c_X5_part l g (s_df (fun k => f (a + k)) i) (s_df (fun k => f (a + k)) (i + 1)) (P) dP (hd _ (by omega)) (hd _ (by omega))) L_X5_X5_part (⟨⟨Nat.le_of_ble_eq_true rfl, Nat.le_of_ble_eq_true rfl⟩, ⟨rfl, rfl⟩, ⟨Nat.le_of_ble_eq_true rfl, Nat.le_of_ble_eq_true rfl⟩⟩) (trivial) rfl hl.1 rfl (Nat.le_of_ble_eq_true rfl) dX5_parts_30) ?_
        refine lv_iadd hx hb dX5_parts_33 ?_
        refine lv_istore_n (lv' := [(3, .int (sm + (s_part (s_df (fun k => f (a + k)) i) (s_df (fun k => f (a + k)) (i + 1)) (P)))), (4, .int (nI i)), (0, .ref o), (1, .int (nI a)), (2, .int (if P then 1 else 0))]) hx hb dX5_parts_34 rfl hl (by decide) rfl (fun ls hl => ?_)
        refine n_iinc (lv' := [(4, .int (nI (i + 1))), (3, .int (sm + (s_part (s_df (fun k => f (a + k)) i) (s_df (fun k => f (a + k)) (i + 1)) (P)))), (0, .ref o), (1, .int (nI a)), (2, .int (if P then 1 else 0))]) hC dX5_parts_35 hl rfl (by decide) rfl (fun ls hl => ?_)
        refine lv_goto (tgt := 5) hx hb dX5_parts_38 (by decide) ?_
        exact ih_3 (i + 1) (sm + (s_part (s_df (fun k => f (a + k)) i) (s_df (fun k => f (a + k)) (i + 1)) (P)))  (by first | omega | assumption | rfl) (by rw [hs]; rfl) (by omega) ls (lv_sub hl [0, 1, 2, 3, 4] rfl)
  exact key_1 ((20 - 0) + 1) 0 (nI 0)  (by first | rfl | omega | assumption) (by first | rfl | omega | assumption) (Nat.lt_succ_self _) ls (lv_sub hl [0, 1, 2, 3, 4] rfl)
