def s_mx (p : Nat → Int32) : Nat → Int32
  | 0 => p 0
  | k + 1 => if s_mx p k < p (k + 1) then p (k + 1) else s_mx p k
def s_mi (p : Nat → Int32) : Nat → Int32
  | 0 => p 0
  | k + 1 => if p (k + 1) < s_mi p k then p (k + 1) else s_mi p k
def s_ex (p : Nat → Int32) (P : Prop) [Decidable P] (k : Nat) : Int32 := if P then s_mx p k else s_mi p k
theorem mx_t {p : Nat → Int32} {k : Nat} (h : s_mx p k < p (k + 1)) : s_mx p (k + 1) = p (k + 1) := if_pos h
theorem mx_f {p : Nat → Int32} {k : Nat} (h : ¬ s_mx p k < p (k + 1)) : s_mx p (k + 1) = s_mx p k := if_neg h
theorem mi_t {p : Nat → Int32} {k : Nat} (h : p (k + 1) < s_mi p k) : s_mi p (k + 1) = p (k + 1) := if_pos h
theorem mi_f {p : Nat → Int32} {k : Nat} (h : ¬ p (k + 1) < s_mi p k) : s_mi p (k + 1) = s_mi p k := if_neg h
theorem ex_t {p : Nat → Int32} {P : Prop} [Decidable P] {k : Nat} (h : P) : s_ex p P k = s_mx p k := if_pos h
theorem ex_f {p : Nat → Int32} {P : Prop} [Decidable P] {k : Nat} (h : ¬ P) : s_ex p P k = s_mi p k := if_neg h
set_option maxHeartbeats 4000000 in
set_option maxRecDepth 100000 in
theorem c_X5_extreme (l : Launch) (g : kG) (o : Nat) (q : Nat) (f : Nat → Int32) (n : Nat) (a : Nat) (P : Prop) (dP : Decidable P) (h : a + 21 ≤ 2552) : PI l yX5_extreme cX5_extreme 6 (some .int) (rr 0 0) [.ref o, .int (nI a), .int (if P then 1 else 0)] ((RP g o q f n)) g (s_ex (fun k => f (a + k)) P 20) := by
  refine kOf (by decide) (Nat.le_of_ble_eq_true rfl) (fun p e s m below meth c ls hC hr hlk hin hK hP hl => ?_)
  have hx := hC.1
  have hb := hC.2.1
  have hml := hC.2.2.1
  have hown := hC.2.2.2.1
  have hts := hC.2.2.2.2
  have hl : lv_has ls 6 [(0, .ref o), (1, .int (nI a)), (2, .int (if P then 1 else 0))] := hl
  refine lv_aload_n hx hb dX5_extreme_0 rfl (lvG hl rfl) ?_
  refine r_row hC hK hP dX5_extreme_1 ?_
  refine lv_iload_n hx hb dX5_extreme_4 rfl (lvG hl rfl) ?_
  refine r_ald (k := a) hC hK hP (by omega) dX5_extreme_5 ?_
  refine lv_istore_n (lv' := [(3, .int (f a)), (0, .ref o), (1, .int (nI a)), (2, .int (if P then 1 else 0))]) hx hb dX5_extreme_6 rfl hl (by decide) rfl (fun ls hl => ?_)
  refine lv_iconst (v := nI 1) hx hb dX5_extreme_7 (by decide) ?_
  refine lv_istore (lv' := [(4, .int (nI 1)), (3, .int (f a)), (0, .ref o), (1, .int (nI a)), (2, .int (if P then 1 else 0))]) hx hb dX5_extreme_8 hl (by decide) rfl (fun ls hl => ?_)
  have key_1 : ∀ (k_2 : Nat) (i : Nat) (vv : Int32)  (hi : i ≤ 20) (hv : vv = s_ex (fun k => f (a + k)) P i) (hk_k_2 : 20 - i < k_2) (ls : Array Slot) (hl : lv_has ls 6 [(4, .int (nI (i + 1))), (3, .int (vv)), (0, .ref o), (1, .int (nI a)), (2, .int (if P then 1 else 0))]), W p l e (rr 0 0) s m [.ref o, .int (nI a), .int (if P then 1 else 0)].toArray below meth c s.heap [] 0 0 (MQ below (vp_Si (fun r => r = s_ex (fun k => f (a + k)) P 20)) [.ref o, .int (nI a), .int (if P then 1 else 0)].toArray s 0 0 (fun _ => False)) (F0 m 10 ls ([])) := by
    intro k_2
    induction k_2 with
    | zero => intro i vv hi hv hk_k_2 ls hl; exact absurd hk_k_2 (Nat.not_lt_zero _)
    | succ k_2 ih_3 =>
      intro i vv hi hv hk_k_2 ls hl
      refine lv_iload hx hb dX5_extreme_10 (lvG hl rfl) ?_
      refine lv_bipush (v := nI 21) hx hb dX5_extreme_12 (by decide) ?_
      refine n_icmp_ge (tgt := 87) hC dX5_extreme_14 (by omega) (by omega) (by decide) (fun zc14 => ?_) (fun zc14 => ?_)
      · refine lv_iload_n hx hb dX5_extreme_87 rfl (lvG hl rfl) ?_
        exact k_iret hC hr hlk dX5_extreme_88 (by rw [hv, show i = 20 by omega])
      · refine lv_iload_n hx hb dX5_extreme_17 rfl (lvG hl rfl) ?_
        refine b_ifeq (tgt := 42) hC dX5_extreme_18 (by decide) (fun zc18 => ?_) (fun zc18 => ?_)
        · refine lv_aload_n hx hb dX5_extreme_42 rfl (lvG hl rfl) ?_
          refine r_row hC hK hP dX5_extreme_43 ?_
          refine lv_iload_n hx hb dX5_extreme_46 rfl (lvG hl rfl) ?_
          refine lv_iload hx hb dX5_extreme_47 (lvG hl rfl) ?_
          refine n_iadd hC dX5_extreme_49 ?_
          refine r_ald (k := a + (i + 1)) hC hK hP (by omega) dX5_extreme_50 ?_
          refine lv_iload_n hx hb dX5_extreme_51 rfl (lvG hl rfl) ?_
          refine lv_icmp_ge (tgt := 59) hx hb dX5_extreme_52 (by decide) (fun zc52 => ?_) (fun zc52 => ?_)
          · refine lv_iconst (v := nI 0) hx hb dX5_extreme_59 (by decide) ?_
            refine lv_istore (lv' := [(5, .int (nI 0)), (4, .int (nI (i + 1))), (3, .int (vv)), (0, .ref o), (1, .int (nI a)), (2, .int (if P then 1 else 0))]) hx hb dX5_extreme_60 hl (by decide) rfl (fun ls hl => ?_)
            refine lv_iload hx hb dX5_extreme_62 (lvG hl rfl) ?_
            refine n_if_eq (tgt := 79) hC dX5_extreme_64 (by decide) (by decide) (fun _ => ?_) (fun c => absurd c (by decide))
            refine lv_iload_n hx hb dX5_extreme_79 rfl (lvG hl rfl) ?_
            refine lv_istore_n (lv' := [(3, .int (vv)), (5, .int (nI 0)), (4, .int (nI (i + 1))), (0, .ref o), (1, .int (nI a)), (2, .int (if P then 1 else 0))]) hx hb dX5_extreme_80 rfl hl (by decide) rfl (fun ls hl => ?_)
            refine n_iinc (lv' := [(4, .int (nI (i + 1 + 1))), (3, .int (vv)), (5, .int (nI 0)), (0, .ref o), (1, .int (nI a)), (2, .int (if P then 1 else 0))]) hC dX5_extreme_81 hl rfl (by decide) rfl (fun ls hl => ?_)
            refine lv_goto (tgt := 10) hx hb dX5_extreme_84 (by decide) ?_
            exact ih_3 (i + 1) vv  (by first | omega | assumption | rfl) (by first | (rw [ex_t zc18] at hv ⊢; rw [mx_t (by rw [← hv]; exact Int32.not_le.mp zc31)]; done) | (rw [ex_t zc18] at hv ⊢; rw [mx_f (by rw [← hv]; exact Int32.not_lt.mpr zc31)]; exact hv) | (rw [ex_f zc18] at hv ⊢; rw [mi_t (by rw [← hv]; exact Int32.not_le.mp zc52)]; done) | (rw [ex_f zc18] at hv ⊢; rw [mi_f (by rw [← hv]; exact Int32.not_lt.mpr zc52)]; exact hv)) (by omega) ls (lv_sub hl [0, 1, 3, 4, 5] rfl)
          · refine lv_iconst (v := nI 1) hx hb dX5_extreme_55 (by decide) ?_
            refine lv_goto (tgt := 60) hx hb dX5_extreme_56 (by decide) ?_
            refine lv_istore (lv' := [(5, .int (nI 1)), (4, .int (nI (i + 1))), (3, .int (vv)), (0, .ref o), (1, .int (nI a)), (2, .int (if P then 1 else 0))]) hx hb dX5_extreme_60 hl (by decide) rfl (fun ls hl => ?_)
            refine lv_iload hx hb dX5_extreme_62 (lvG hl rfl) ?_
            refine n_if_eq (tgt := 79) hC dX5_extreme_64 (by decide) (by decide) (fun c => absurd c (by decide)) (fun _ => ?_)
            refine lv_aload_n hx hb dX5_extreme_67 rfl (lvG hl rfl) ?_
            refine r_row hC hK hP dX5_extreme_68 ?_
            refine lv_iload_n hx hb dX5_extreme_71 rfl (lvG hl rfl) ?_
            refine lv_iload hx hb dX5_extreme_72 (lvG hl rfl) ?_
            refine n_iadd hC dX5_extreme_74 ?_
            refine r_ald (k := a + (i + 1)) hC hK hP (by omega) dX5_extreme_75 ?_
            refine lv_goto (tgt := 80) hx hb dX5_extreme_76 (by decide) ?_
            refine lv_istore_n (lv' := [(3, .int (f (a + (i + 1)))), (5, .int (nI 1)), (4, .int (nI (i + 1))), (0, .ref o), (1, .int (nI a)), (2, .int (if P then 1 else 0))]) hx hb dX5_extreme_80 rfl hl (by decide) rfl (fun ls hl => ?_)
            refine n_iinc (lv' := [(4, .int (nI (i + 1 + 1))), (3, .int (f (a + (i + 1)))), (5, .int (nI 1)), (0, .ref o), (1, .int (nI a)), (2, .int (if P then 1 else 0))]) hC dX5_extreme_81 hl rfl (by decide) rfl (fun ls hl => ?_)
            refine lv_goto (tgt := 10) hx hb dX5_extreme_84 (by decide) ?_
            exact ih_3 (i + 1) (f (a + (i + 1)))  (by first | omega | assumption | rfl) (by first | (rw [ex_t zc18] at hv ⊢; rw [mx_t (by rw [← hv]; exact Int32.not_le.mp zc31)]; done) | (rw [ex_t zc18] at hv ⊢; rw [mx_f (by rw [← hv]; exact Int32.not_lt.mpr zc31)]; exact hv) | (rw [ex_f zc18] at hv ⊢; rw [mi_t (by rw [← hv]; exact Int32.not_le.mp zc52)]; done) | (rw [ex_f zc18] at hv ⊢; rw [mi_f (by rw [← hv]; exact Int32.not_lt.mpr zc52)]; exact hv)) (by omega) ls (lv_sub hl [0, 1, 3, 4, 5] rfl)
        · refine lv_aload_n hx hb dX5_extreme_21 rfl (lvG hl rfl) ?_
          refine r_row hC hK hP dX5_extreme_22 ?_
          refine lv_iload_n hx hb dX5_extreme_25 rfl (lvG hl rfl) ?_
          refine lv_iload hx hb dX5_extreme_26 (lvG hl rfl) ?_
          refine n_iadd hC dX5_extreme_28 ?_
          refine r_ald (k := a + (i + 1)) hC hK hP (by omega) dX5_extreme_29 ?_
          refine lv_iload_n hx hb dX5_extreme_30 rfl (lvG hl rfl) ?_
          refine lv_icmp_le (tgt := 38) hx hb dX5_extreme_31 (by decide) (fun zc31 => ?_) (fun zc31 => ?_)
          · refine lv_iconst (v := nI 0) hx hb dX5_extreme_38 (by decide) ?_
            refine lv_goto (tgt := 60) hx hb dX5_extreme_39 (by decide) ?_
            refine lv_istore (lv' := [(5, .int (nI 0)), (4, .int (nI (i + 1))), (3, .int (vv)), (0, .ref o), (1, .int (nI a)), (2, .int (if P then 1 else 0))]) hx hb dX5_extreme_60 hl (by decide) rfl (fun ls hl => ?_)
            refine lv_iload hx hb dX5_extreme_62 (lvG hl rfl) ?_
            refine n_if_eq (tgt := 79) hC dX5_extreme_64 (by decide) (by decide) (fun _ => ?_) (fun c => absurd c (by decide))
            refine lv_iload_n hx hb dX5_extreme_79 rfl (lvG hl rfl) ?_
            refine lv_istore_n (lv' := [(3, .int (vv)), (5, .int (nI 0)), (4, .int (nI (i + 1))), (0, .ref o), (1, .int (nI a)), (2, .int (if P then 1 else 0))]) hx hb dX5_extreme_80 rfl hl (by decide) rfl (fun ls hl => ?_)
            refine n_iinc (lv' := [(4, .int (nI (i + 1 + 1))), (3, .int (vv)), (5, .int (nI 0)), (0, .ref o), (1, .int (nI a)), (2, .int (if P then 1 else 0))]) hC dX5_extreme_81 hl rfl (by decide) rfl (fun ls hl => ?_)
            refine lv_goto (tgt := 10) hx hb dX5_extreme_84 (by decide) ?_
            exact ih_3 (i + 1) vv  (by first | omega | assumption | rfl) (by first | (rw [ex_t zc18] at hv ⊢; rw [mx_t (by rw [← hv]; exact Int32.not_le.mp zc31)]; done) | (rw [ex_t zc18] at hv ⊢; rw [mx_f (by rw [← hv]; exact Int32.not_lt.mpr zc31)]; exact hv) | (rw [ex_f zc18] at hv ⊢; rw [mi_t (by rw [← hv]; exact Int32.not_le.mp zc52)]; done) | (rw [ex_f zc18] at hv ⊢; rw [mi_f (by rw [← hv]; exact Int32.not_lt.mpr zc52)]; exact hv)) (by omega) ls (lv_sub hl [0, 1, 3, 4, 5] rfl)
          · refine lv_iconst (v := nI 1) hx hb dX5_extreme_34 (by decide) ?_
            refine lv_goto (tgt := 60) hx hb dX5_extreme_35 (by decide) ?_
            refine lv_istore (lv' := [(5, .int (nI 1)), (4, .int (nI (i + 1))), (3, .int (vv)), (0, .ref o), (1, .int (nI a)), (2, .int (if P then 1 else 0))]) hx hb dX5_extreme_60 hl (by decide) rfl (fun ls hl => ?_)
            refine lv_iload hx hb dX5_extreme_62 (lvG hl rfl) ?_
            refine n_if_eq (tgt := 79) hC dX5_extreme_64 (by decide) (by decide) (fun c => absurd c (by decide)) (fun _ => ?_)
            refine lv_aload_n hx hb dX5_extreme_67 rfl (lvG hl rfl) ?_
            refine r_row hC hK hP dX5_extreme_68 ?_
            refine lv_iload_n hx hb dX5_extreme_71 rfl (lvG hl rfl) ?_
            refine lv_iload hx hb dX5_extreme_72 (lvG hl rfl) ?_
            refine n_iadd hC dX5_extreme_74 ?_
            refine r_ald (k := a + (i + 1)) hC hK hP (by omega) dX5_extreme_75 ?_
            refine lv_goto (tgt := 80) hx hb dX5_extreme_76 (by decide) ?_
            refine lv_istore_n (lv' := [(3, .int (f (a + (i + 1)))), (5, .int (nI 1)), (4, .int (nI (i + 1))), (0, .ref o), (1, .int (nI a)), (2, .int (if P then 1 else 0))]) hx hb dX5_extreme_80 rfl hl (by decide) rfl (fun ls hl => ?_)
            refine n_iinc (lv' := [(4, .int (nI (i + 1 + 1))), (3, .int (f (a + (i + 1)))), (5, .int (nI 1)), (0, .ref o), (1, .int (nI a)), (2, .int (if P then 1 else 0))]) hC dX5_extreme_81 hl rfl (by decide) rfl (fun ls hl => ?_)
            refine lv_goto (tgt := 10) hx hb dX5_extreme_84 (by decide) ?_
            exact ih_3 (i + 1) (f (a + (i + 1)))  (by first | omega | assumption | rfl) (by first | (rw [ex_t zc18] at hv ⊢; rw [mx_t (by rw [← hv]; exact Int32.not_le.mp zc31)]; done) | (rw [ex_t zc18] at hv ⊢; rw [mx_f (by rw [← hv]; exact Int32.not_lt.mpr zc31)]; exact hv) | (rw [ex_f zc18] at hv ⊢; rw [mi_t (by rw [← hv]; exact Int32.not_le.mp zc52)]; done) | (rw [ex_f zc18] at hv ⊢; rw [mi_f (by rw [← hv]; exact Int32.not_lt.mpr zc52)]; exact hv)) (by omega) ls (lv_sub hl [0, 1, 3, 4, 5] rfl)
  exact key_1 ((20 - 0) + 1) 0 (f a)  (by first | rfl | omega | assumption) (by unfold s_ex; split <;> rfl) (Nat.lt_succ_self _) ls (lv_sub hl [0, 1, 2, 3, 4] rfl)
def s_fw (p : Nat → Int32) (b : Int32) : Nat → Nat → Nat
  | 0, k => k
  | m + 1, k => if p k < b then s_fw p b m (k + 1) else k
theorem s_fw_t {p : Nat → Int32} {b : Int32} {m k : Nat} (h : p k < b) : s_fw p b (m + 1) k = s_fw p b m (k + 1) := if_pos h
theorem s_fw_f {p : Nat → Int32} {b : Int32} {m k : Nat} (h : ¬ p k < b) : s_fw p b (m + 1) k = k := if_neg h
def s_bd (f : Nat → Int32) (p : Nat → Int32) : Int32 := s_mx p 20 - f 6
def s_ad (f : Nat → Int32) (p : Nat → Int32) : Nat := s_fw p (s_bd f p) 21 0
def s_co (p : Nat → Int32) (b : Int32) : Nat → Nat → Nat
  | 0, k => k
  | m + 1, k => if k < 20 ∧ b ≤ p (k + 1) then s_co p b m (k + 1) else k
theorem s_co_t {p : Nat → Int32} {b : Int32} {m k : Nat} (h : k < 20) (h2 : b ≤ p (k + 1)) : s_co p b (m + 1) k = s_co p b m (k + 1) := if_pos ⟨h, h2⟩
theorem s_co_f {p : Nat → Int32} {b : Int32} {m k : Nat} (h : ¬ (k < 20 ∧ b ≤ p (k + 1))) : s_co p b m k = k := by
  cases m with
  | zero => rfl
  | succ m => exact if_neg h
theorem s_co_in (p : Nat → Int32) (b : Int32) : ∀ m k, k ≤ s_co p b m k ∧ (k ≤ 20 → s_co p b m k ≤ 20)
  | 0, k => ⟨Nat.le_refl _, fun h => h⟩
  | m + 1, k => by
    have ih := s_co_in p b m (k + 1)
    unfold s_co
    split
    · exact ⟨by omega, fun _ => ih.2 (by omega)⟩
    · exact ⟨Nat.le_refl _, fun h => h⟩
def s_cu (f : Nat → Int32) (p : Nat → Int32) : Nat := s_co p (s_bd f p) 20 (s_ad f p)
def s_kc (f : Nat → Int32) (p : Nat → Int32) (k : Nat) : Int32 := p k * (f 0 + nI k)
def s_rb (f : Nat → Int32) (p : Nat → Int32) : Int32 := s_kc f p (s_cu f p) * (nI 100 - f 7)
def s_rl (f : Nat → Int32) (p : Nat → Int32) (b : Int32) : Nat → Nat → Nat
  | 0, k => k
  | m + 1, k => if k ≤ 20 ∧ b ≤ s_kc f p k * nI 100 then s_rl f p b m (k + 1) else k
theorem s_rl_t {f p : Nat → Int32} {b : Int32} {m k : Nat} (h : k ≤ 20) (h2 : b ≤ s_kc f p k * nI 100) : s_rl f p b (m + 1) k = s_rl f p b m (k + 1) := if_pos ⟨h, h2⟩
theorem s_rl_f {f p : Nat → Int32} {b : Int32} {m k : Nat} (h : ¬ (k ≤ 20 ∧ b ≤ s_kc f p k * nI 100)) : s_rl f p b m k = k := by
  cases m with
  | zero => rfl
  | succ m => exact if_neg h
theorem s_rl_ge (f p : Nat → Int32) (b : Int32) : ∀ m k, k ≤ s_rl f p b m k
  | 0, k => Nat.le_refl _
  | m + 1, k => by
    have ih := s_rl_ge f p b m (k + 1)
    unfold s_rl
    split <;> omega
def s_re (f : Nat → Int32) (p : Nat → Int32) : Nat := if 20 < s_rl f p (s_rb f p) 21 (s_cu f p + 1) then 20 else s_rl f p (s_rb f p) 21 (s_cu f p + 1)
theorem s_re_in (f p : Nat → Int32) : 1 ≤ s_re f p ∧ s_re f p ≤ 20 := by
  have h := s_rl_ge f p (s_rb f p) 21 (s_cu f p + 1)
  unfold s_re
  split <;> omega
def s_cm (p : Nat → Int32) (b : Int32) : Nat → Nat
  | 0 => 0
  | k + 1 => if b < p k then k + 1 else s_cm p b k
theorem s_cm_le (p : Nat → Int32) (b : Int32) : ∀ k, s_cm p b k ≤ k
  | 0 => Nat.le_refl _
  | k + 1 => by
    have ih := s_cm_le p b k
    unfold s_cm
    split <;> omega
def s_cp (f : Nat → Int32) (p : Nat → Int32) : Nat := if 20 < s_cm (fun k => p (21 + k)) (s_mi (fun k => p (21 + k)) 20 + f 6) 21 then 20 else s_cm (fun k => p (21 + k)) (s_mi (fun k => p (21 + k)) 20 + f 6) 21
set_option maxHeartbeats 4000000 in
set_option maxRecDepth 100000 in
theorem c_X5_constantAt (l : Launch) (g : kG) (o : Nat) (q : Nat) (f : Nat → Int32) (n : Nat) (a : Nat) (st : Nat) (h : a + st < 2552) : PI l yX5_constantAt cX5_constantAt 3 (some .int) (rr 1 21) [.ref o, .int (nI a), .int (nI st)] ((RP g o q f n)) g (s_kc f (fun k => f (a + k)) st) := by
  refine kOf (by decide) (Nat.le_of_ble_eq_true rfl) (fun p e s m below meth c ls hC hr hlk hin hK hP hl => ?_)
  have hx := hC.1
  have hb := hC.2.1
  have hml := hC.2.2.1
  have hown := hC.2.2.2.1
  have hts := hC.2.2.2.2
  have hl : lv_has ls 3 [(0, .ref o), (1, .int (nI a)), (2, .int (nI st))] := hl
  refine lv_aload_n hx hb dX5_constantAt_0 rfl (lvG hl rfl) ?_
  refine r_row hC hK hP dX5_constantAt_1 ?_
  refine lv_iload_n hx hb dX5_constantAt_4 rfl (lvG hl rfl) ?_
  refine lv_iload_n hx hb dX5_constantAt_5 rfl (lvG hl rfl) ?_
  refine n_iadd hC dX5_constantAt_6 ?_
  refine r_ald (k := a + st) hC hK hP (by omega) dX5_constantAt_7 ?_
  refine lv_aload_n hx hb dX5_constantAt_8 rfl (lvG hl rfl) ?_
  refine lv_iload_n hx hb dX5_constantAt_9 rfl (lvG hl rfl) ?_
  refine k_callPI (k_goV (rest := [.int (f (a + st))]) hC hK (c_X5_volume l g o q f n (nI st)) L_X5_X5_volume (⟨⟨Nat.le_of_ble_eq_true rfl, Nat.le_of_ble_eq_true rfl⟩, ⟨rfl, rfl⟩, ⟨Nat.le_of_ble_eq_true rfl, Nat.le_of_ble_eq_true rfl⟩⟩) (hP.recv hK) (hP) rfl hl.1 rfl (Nat.le_of_ble_eq_true rfl) dX5_constantAt_10) ?_
  refine lv_imul hx hb dX5_constantAt_13 ?_
  exact k_iret hC hr hlk dX5_constantAt_14 (by first | rfl | grind [] | grind [nI])
theorem L_X5_X5_extreme : LnkV RX5 107 yX5_extreme cX5_extreme 6 (some .int) 2 := ⟨w_846, w_848, w_42, w_60, w_849, ⟨by decide +kernel, by decide +kernel⟩, by decide +kernel⟩
set_option maxHeartbeats 4000000 in
set_option maxRecDepth 100000 in
theorem c_X5_admission (l : Launch) (g : kG) (o : Nat) (q : Nat) (f : Nat → Int32) (n : Nat) (a : Nat) (h : a + 42 ≤ 2552) (hx0 : s_ad f (fun k => f (a + k)) ≤ 20) : PI l yX5_admission cX5_admission 4 (some .int) (rr 1 25) [.ref o, .int (nI a)] ((RP g o q f n)) g (nI (s_ad f (fun k => f (a + k)))) := by
  refine kOf (by decide) (Nat.le_of_ble_eq_true rfl) (fun p e s m below meth c ls hC hr hlk hin hK hP hl => ?_)
  have hx := hC.1
  have hb := hC.2.1
  have hml := hC.2.2.1
  have hown := hC.2.2.2.1
  have hts := hC.2.2.2.2
  have hl : lv_has ls 4 [(0, .ref o), (1, .int (nI a))] := hl
  refine lv_aload_n hx hb dX5_admission_0 rfl (lvG hl rfl) ?_
  refine lv_iload_n hx hb dX5_admission_1 rfl (lvG hl rfl) ?_
  refine lv_iconst (v := nI 1) hx hb dX5_admission_2 (by decide) ?_
  refine k_callPI (k_goV (rest := []) hC hK (c_X5_extreme l g o q f n a True (inferInstance) (by omega)) L_X5_X5_extreme (⟨⟨Nat.le_of_ble_eq_true rfl, Nat.le_of_ble_eq_true rfl⟩, ⟨rfl, rfl⟩, ⟨Nat.le_of_ble_eq_true rfl, Nat.le_of_ble_eq_true rfl⟩⟩) (hP.recv hK) (hP) rfl hl.1 rfl (Nat.le_of_ble_eq_true rfl) dX5_admission_3) ?_
  rw [ex_t trivial]
  refine lv_aload_n hx hb dX5_admission_6 rfl (lvG hl rfl) ?_
  refine r_row hC hK hP dX5_admission_7 ?_
  refine lv_bipush (v := nI 6) hx hb dX5_admission_10 (by decide) ?_
  refine r_ald (k := 6) hC hK hP (by omega) dX5_admission_12 ?_
  refine lv_isub hx hb dX5_admission_13 ?_
  refine lv_topi (fun bd ebd => ?_)
  refine lv_istore_n (lv' := [(2, .int (bd)), (0, .ref o), (1, .int (nI a))]) hx hb dX5_admission_14 rfl hl (by decide) rfl (fun ls hl => ?_)
  refine lv_iconst (v := nI 0) hx hb dX5_admission_15 (by decide) ?_
  refine lv_istore_n (lv' := [(3, .int (nI 0)), (2, .int (bd)), (0, .ref o), (1, .int (nI a))]) hx hb dX5_admission_16 rfl hl (by decide) rfl (fun ls hl => ?_)
  have key_1 : ∀ (k_2 : Nat) (i : Nat)  (hi : i ≤ 20) (hs : s_fw (fun k => f (a + k)) bd (21 - i) i = s_ad f (fun k => f (a + k))) (hk_k_2 : 21 - i < k_2) (ls : Array Slot) (hl : lv_has ls 4 [(3, .int (nI i)), (2, .int (bd)), (0, .ref o), (1, .int (nI a))]), W p l e (rr 1 25) s m [.ref o, .int (nI a)].toArray below meth c s.heap [] 0 0 (MQ below (vp_Si (fun r => r = nI (s_ad f (fun k => f (a + k))))) [.ref o, .int (nI a)].toArray s 0 0 (fun _ => False)) (F0 m 17 ls ([])) := by
    intro k_2
    induction k_2 with
    | zero => intro i hi hs hk_k_2 ls hl; exact absurd hk_k_2 (Nat.not_lt_zero _)
    | succ k_2 ih_3 =>
      intro i hi hs hk_k_2 ls hl
      have hu : s_fw (fun k => f (a + k)) bd (21 - i) i = s_fw (fun k => f (a + k)) bd ((20 - i) + 1) i := by rw [show 21 - i = (20 - i) + 1 by omega]
      refine lv_aload_n hx hb dX5_admission_17 rfl (lvG hl rfl) ?_
      refine r_row hC hK hP dX5_admission_18 ?_
      refine lv_iload_n hx hb dX5_admission_21 rfl (lvG hl rfl) ?_
      refine lv_iload_n hx hb dX5_admission_22 rfl (lvG hl rfl) ?_
      refine n_iadd hC dX5_admission_23 ?_
      refine r_ald (k := a + i) hC hK hP (by omega) dX5_admission_24 ?_
      refine lv_iload_n hx hb dX5_admission_25 rfl (lvG hl rfl) ?_
      refine lv_icmp_ge (tgt := 35) hx hb dX5_admission_26 (by decide) (fun zc26 => ?_) (fun zc26 => ?_)
      · refine lv_iload_n hx hb dX5_admission_35 rfl (lvG hl rfl) ?_
        exact k_iret hC hr hlk dX5_admission_36 (by rw [← hs, hu, s_fw_f (p := fun k => f (a + k)) (k := i) (Int32.not_lt.mpr zc26)])
      · refine n_iinc (lv' := [(3, .int (nI (i + 1))), (2, .int (bd)), (0, .ref o), (1, .int (nI a))]) hC dX5_admission_29 hl rfl (by decide) rfl (fun ls hl => ?_)
        refine lv_goto (tgt := 17) hx hb dX5_admission_32 (by decide) ?_
        exact ih_3 (i + 1)  (by have h1 : s_fw (fun k => f (a + k)) bd (20 - i) (i + 1) = s_ad f (fun k => f (a + k)) := by { rw [← hs, hu, s_fw_t (p := fun k => f (a + k)) (k := i) (Int32.not_le.mp zc26)] }; rcases Nat.lt_or_ge i 20 with q0 | q0; (exact q0); (rw [show 20 - i = 0 by omega] at h1; have h2 : i + 1 = s_ad f (fun k => f (a + k)) := h1; exact absurd hx0 (by rw [← h2]; omega))) (by rw [show 21 - (i + 1) = 20 - i by omega, ← hs, hu, s_fw_t (p := fun k => f (a + k)) (k := i) (Int32.not_le.mp zc26)]) (by omega) ls (lv_sub hl [0, 1, 2, 3] rfl)
  exact key_1 ((21 - 0) + 1) 0  (by first | rfl | omega | assumption) (by rw [ebd]; rfl) (Nat.lt_succ_self _) ls (lv_sub hl [0, 1, 2, 3] rfl)
theorem L_X5_X5_admission : LnkV RX5 110 yX5_admission cX5_admission 4 (some .int) 1 := ⟨w_842, w_844, w_41, w_60, w_845, ⟨by decide +kernel, by decide +kernel⟩, by decide +kernel⟩
theorem s_co_fuel (p : Nat → Int32) (b : Int32) : ∀ (m1 m2 k : Nat), k ≤ 20 → 20 ≤ k + m1 → 20 ≤ k + m2 → s_co p b m1 k = s_co p b m2 k
  | 0, m2, k, h, h1, h2 => by rw [s_co_f (m := 0) (fun q => by omega), s_co_f (m := m2) (fun q => by omega)]
  | m1 + 1, 0, k, h, h1, h2 => by rw [s_co_f (m := 0) (fun q => by omega), s_co_f (m := m1 + 1) (fun q => by omega)]
  | m1 + 1, m2 + 1, k, h, h1, h2 => by
    by_cases q : k < 20 ∧ b ≤ p (k + 1)
    · rw [s_co_t q.1 q.2, s_co_t q.1 q.2, s_co_fuel p b m1 m2 (k + 1) (by omega) (by omega) (by omega)]
    · rw [s_co_f q, s_co_f q]
set_option maxHeartbeats 4000000 in
set_option maxRecDepth 100000 in
theorem c_X5_cutOff (l : Launch) (g : kG) (o : Nat) (q : Nat) (f : Nat → Int32) (n : Nat) (a : Nat) (h : a + 42 ≤ 2552) (hx0 : s_ad f (fun k => f (a + k)) ≤ 20) : PI l yX5_cutOff cX5_cutOff 4 (some .int) (rr 2 48) [.ref o, .int (nI a)] ((RP g o q f n)) g (nI (s_cu f (fun k => f (a + k)))) := by
  refine kOf (by decide) (Nat.le_of_ble_eq_true rfl) (fun p e s m below meth c ls hC hr hlk hin hK hP hl => ?_)
  have hx := hC.1
  have hb := hC.2.1
  have hml := hC.2.2.1
  have hown := hC.2.2.2.1
  have hts := hC.2.2.2.2
  have hl : lv_has ls 4 [(0, .ref o), (1, .int (nI a))] := hl
  refine lv_aload_n hx hb dX5_cutOff_0 rfl (lvG hl rfl) ?_
  refine lv_iload_n hx hb dX5_cutOff_1 rfl (lvG hl rfl) ?_
  refine lv_iconst (v := nI 1) hx hb dX5_cutOff_2 (by decide) ?_
  refine k_callPI (k_goV (rest := []) hC hK (c_X5_extreme l g o q f n a True (inferInstance) (by omega)) L_X5_X5_extreme (⟨⟨Nat.le_of_ble_eq_true rfl, Nat.le_of_ble_eq_true rfl⟩, ⟨rfl, rfl⟩, ⟨Nat.le_of_ble_eq_true rfl, Nat.le_of_ble_eq_true rfl⟩⟩) (hP.recv hK) (hP) rfl hl.1 rfl (Nat.le_of_ble_eq_true rfl) dX5_cutOff_3) ?_
  rw [ex_t trivial]
  refine lv_aload_n hx hb dX5_cutOff_6 rfl (lvG hl rfl) ?_
  refine r_row hC hK hP dX5_cutOff_7 ?_
  refine lv_bipush (v := nI 6) hx hb dX5_cutOff_10 (by decide) ?_
  refine r_ald (k := 6) hC hK hP (by omega) dX5_cutOff_12 ?_
  refine lv_isub hx hb dX5_cutOff_13 ?_
  refine lv_topi (fun bd ebd => ?_)
  refine lv_istore_n (lv' := [(2, .int (bd)), (0, .ref o), (1, .int (nI a))]) hx hb dX5_cutOff_14 rfl hl (by decide) rfl (fun ls hl => ?_)
  refine lv_aload_n hx hb dX5_cutOff_15 rfl (lvG hl rfl) ?_
  refine lv_iload_n hx hb dX5_cutOff_16 rfl (lvG hl rfl) ?_
  refine k_callPI (k_goV (rest := []) hC hK (c_X5_admission l g o q f n a h hx0) L_X5_X5_admission (⟨⟨Nat.le_of_ble_eq_true rfl, Nat.le_of_ble_eq_true rfl⟩, ⟨rfl, rfl⟩, ⟨Nat.le_of_ble_eq_true rfl, Nat.le_of_ble_eq_true rfl⟩⟩) (hP.recv hK) (hP) rfl hl.1 rfl (Nat.le_of_ble_eq_true rfl) dX5_cutOff_17) ?_
  refine lv_istore_n (lv' := [(3, .int (nI (s_ad f (fun k => f (a + k))))), (2, .int (bd)), (0, .ref o), (1, .int (nI a))]) hx hb dX5_cutOff_20 rfl hl (by decide) rfl (fun ls hl => ?_)
  have key_1 : ∀ (k_2 : Nat) (i : Nat)  (hi : i ≤ 20) (hs : s_co (fun k => f (a + k)) bd (20 - i) i = s_cu f (fun k => f (a + k))) (hk_k_2 : 20 - i < k_2) (ls : Array Slot) (hl : lv_has ls 4 [(3, .int (nI i)), (2, .int (bd)), (0, .ref o), (1, .int (nI a))]), W p l e (rr 2 48) s m [.ref o, .int (nI a)].toArray below meth c s.heap [] 0 0 (MQ below (vp_Si (fun r => r = nI (s_cu f (fun k => f (a + k))))) [.ref o, .int (nI a)].toArray s 0 0 (fun _ => False)) (F0 m 21 ls ([])) := by
    intro k_2
    induction k_2 with
    | zero => intro i hi hs hk_k_2 ls hl; exact absurd hk_k_2 (Nat.not_lt_zero _)
    | succ k_2 ih_3 =>
      intro i hi hs hk_k_2 ls hl
      refine lv_iload_n hx hb dX5_cutOff_21 rfl (lvG hl rfl) ?_
      refine lv_bipush (v := nI 20) hx hb dX5_cutOff_22 (by decide) ?_
      refine n_icmp_ge (tgt := 47) hC dX5_cutOff_24 (by omega) (by omega) (by decide) (fun zc24 => ?_) (fun zc24 => ?_)
      · refine lv_iload_n hx hb dX5_cutOff_47 rfl (lvG hl rfl) ?_
        exact k_iret hC hr hlk dX5_cutOff_48 (by rw [← hs, s_co_f (fun q => by first | omega | exact absurd q.2 (Int32.not_le.mpr zc38))])
      · refine lv_aload_n hx hb dX5_cutOff_27 rfl (lvG hl rfl) ?_
        refine r_row hC hK hP dX5_cutOff_28 ?_
        refine lv_iload_n hx hb dX5_cutOff_31 rfl (lvG hl rfl) ?_
        refine lv_iload_n hx hb dX5_cutOff_32 rfl (lvG hl rfl) ?_
        refine n_iadd hC dX5_cutOff_33 ?_
        refine lv_iconst (v := nI 1) hx hb dX5_cutOff_34 (by decide) ?_
        refine n_iadd hC dX5_cutOff_35 ?_
        refine r_ald (k := a + i + 1) hC hK hP (by omega) dX5_cutOff_36 ?_
        refine lv_iload_n hx hb dX5_cutOff_37 rfl (lvG hl rfl) ?_
        refine lv_icmp_lt (tgt := 47) hx hb dX5_cutOff_38 (by decide) (fun zc38 => ?_) (fun zc38 => ?_)
        · refine lv_iload_n hx hb dX5_cutOff_47 rfl (lvG hl rfl) ?_
          exact k_iret hC hr hlk dX5_cutOff_48 (by rw [← hs, s_co_f (fun q => by first | omega | exact absurd q.2 (Int32.not_le.mpr zc38))])
        · refine n_iinc (lv' := [(3, .int (nI (i + 1))), (2, .int (bd)), (0, .ref o), (1, .int (nI a))]) hC dX5_cutOff_41 hl rfl (by decide) rfl (fun ls hl => ?_)
          refine lv_goto (tgt := 21) hx hb dX5_cutOff_44 (by decide) ?_
          exact ih_3 (i + 1)  (by first | omega | assumption | rfl) (by rw [← hs, show 20 - i = (20 - (i + 1)) + 1 by omega, s_co_t (p := fun k => f (a + k)) (k := i) (by omega) (Int32.not_lt.mp zc38)]) (by omega) ls (lv_sub hl [0, 1, 2, 3] rfl)
  exact key_1 ((20 - (s_ad f (fun k => f (a + k)))) + 1) (s_ad f (fun k => f (a + k)))  (by first | rfl | omega | assumption) (by rw [ebd]; show s_co _ (s_bd f (fun k => f (a + k))) _ _ = s_co _ _ _ _; exact s_co_fuel _ _ _ _ _ hx0 (by omega) (by omega)) (Nat.lt_succ_self _) ls (lv_sub hl [0, 1, 2, 3] rfl)
theorem L_X5_X5_cutOff : LnkV RX5 113 yX5_cutOff cX5_cutOff 4 (some .int) 1 := ⟨w_850, w_852, w_43, w_60, w_853, ⟨by decide +kernel, by decide +kernel⟩, by decide +kernel⟩
theorem L_X5_X5_constantAt : LnkV RX5 116 yX5_constantAt cX5_constantAt 3 (some .int) 2 := ⟨w_858, w_860, w_45, w_60, w_861, ⟨by decide +kernel, by decide +kernel⟩, by decide +kernel⟩
theorem s_rl_fuel (f p : Nat → Int32) (b : Int32) : ∀ (m1 m2 k : Nat), k ≤ 21 → 21 ≤ k + m1 → 21 ≤ k + m2 → s_rl f p b m1 k = s_rl f p b m2 k
  | 0, m2, k, h, h1, h2 => by rw [s_rl_f (m := 0) (fun q => by omega), s_rl_f (m := m2) (fun q => by omega)]
  | m1 + 1, 0, k, h, h1, h2 => by rw [s_rl_f (m := 0) (fun q => by omega), s_rl_f (m := m1 + 1) (fun q => by omega)]
  | m1 + 1, m2 + 1, k, h, h1, h2 => by
    by_cases q : k ≤ 20 ∧ b ≤ s_kc f p k * nI 100
    · rw [s_rl_t q.1 q.2, s_rl_t q.1 q.2, s_rl_fuel f p b m1 m2 (k + 1) (by omega) (by omega) (by omega)]
    · rw [s_rl_f q, s_rl_f q]
set_option maxHeartbeats 4000000 in
set_option maxRecDepth 100000 in
theorem c_X5_release (l : Launch) (g : kG) (o : Nat) (q : Nat) (f : Nat → Int32) (n : Nat) (a : Nat) (h : a + 42 ≤ 2552) (hx0 : s_ad f (fun k => f (a + k)) ≤ 20) : PI l yX5_release cX5_release 5 (some .int) (rr 3 71) [.ref o, .int (nI a)] ((RP g o q f n)) g (nI (s_re f (fun k => f (a + k)))) := by
  refine kOf (by decide) (Nat.le_of_ble_eq_true rfl) (fun p e s m below meth c ls hC hr hlk hin hK hP hl => ?_)
  have hx := hC.1
  have hb := hC.2.1
  have hml := hC.2.2.1
  have hown := hC.2.2.2.1
  have hts := hC.2.2.2.2
  have hl : lv_has ls 5 [(0, .ref o), (1, .int (nI a))] := hl
  have hcu := (s_co_in (fun k => f (a + k)) (s_bd f (fun k => f (a + k))) 20 (s_ad f (fun k => f (a + k)))).2 hx0
  have hcu2 : s_cu f (fun k => f (a + k)) ≤ 20 := hcu
  refine lv_aload_n hx hb dX5_release_0 rfl (lvG hl rfl) ?_
  refine lv_iload_n hx hb dX5_release_1 rfl (lvG hl rfl) ?_
  refine k_callPI (k_goV (rest := []) hC hK (c_X5_cutOff l g o q f n a h hx0) L_X5_X5_cutOff (⟨⟨Nat.le_of_ble_eq_true rfl, Nat.le_of_ble_eq_true rfl⟩, ⟨rfl, rfl⟩, ⟨Nat.le_of_ble_eq_true rfl, Nat.le_of_ble_eq_true rfl⟩⟩) (hP.recv hK) (hP) rfl hl.1 rfl (Nat.le_of_ble_eq_true rfl) dX5_release_2) ?_
  refine lv_istore_n (lv' := [(2, .int (nI (s_cu f (fun k => f (a + k))))), (0, .ref o), (1, .int (nI a))]) hx hb dX5_release_5 rfl hl (by decide) rfl (fun ls hl => ?_)
  refine lv_aload_n hx hb dX5_release_6 rfl (lvG hl rfl) ?_
  refine lv_iload_n hx hb dX5_release_7 rfl (lvG hl rfl) ?_
  refine lv_iload_n hx hb dX5_release_8 rfl (lvG hl rfl) ?_
  refine k_callPI (k_goV (rest := []) hC hK (c_X5_constantAt l g o q f n a (s_cu f (fun k => f (a + k))) (by first | assumption | omega)) L_X5_X5_constantAt (⟨⟨Nat.le_of_ble_eq_true rfl, Nat.le_of_ble_eq_true rfl⟩, ⟨rfl, rfl⟩, ⟨Nat.le_of_ble_eq_true rfl, Nat.le_of_ble_eq_true rfl⟩⟩) (hP.recv hK) (hP) rfl hl.1 rfl (Nat.le_of_ble_eq_true rfl) dX5_release_9) ?_
  refine lv_bipush (v := nI 100) hx hb dX5_release_12 (by decide) ?_
  refine lv_aload_n hx hb dX5_release_14 rfl (lvG hl rfl) ?_
  refine r_row hC hK hP dX5_release_15 ?_
  refine lv_bipush (v := nI 7) hx hb dX5_release_18 (by decide) ?_
  refine r_ald (k := 7) hC hK hP (by omega) dX5_release_20 ?_
  refine lv_isub hx hb dX5_release_21 ?_
  refine lv_imul hx hb dX5_release_22 ?_
  refine lv_topi (fun bd ebd => ?_)
  refine lv_istore_n (lv' := [(3, .int (bd)), (2, .int (nI (s_cu f (fun k => f (a + k))))), (0, .ref o), (1, .int (nI a))]) hx hb dX5_release_23 rfl hl (by decide) rfl (fun ls hl => ?_)
  refine lv_iload_n hx hb dX5_release_24 rfl (lvG hl rfl) ?_
  refine lv_iconst (v := nI 1) hx hb dX5_release_25 (by decide) ?_
  refine n_iadd hC dX5_release_26 ?_
  refine lv_istore (lv' := [(4, .int (nI (s_cu f (fun k => f (a + k)) + 1))), (3, .int (bd)), (2, .int (nI (s_cu f (fun k => f (a + k))))), (0, .ref o), (1, .int (nI a))]) hx hb dX5_release_27 hl (by decide) rfl (fun ls hl => ?_)
  have key_1 : ∀ (k_2 : Nat) (i : Nat)  (hi : i ≤ 21) (hs : s_rl f (fun k => f (a + k)) bd (21 - i) i = s_rl f (fun k => f (a + k)) (s_rb f (fun k => f (a + k))) 21 (s_cu f (fun k => f (a + k)) + 1)) (hk_k_2 : 21 - i < k_2) (ls : Array Slot) (hl : lv_has ls 5 [(4, .int (nI i)), (3, .int (bd)), (2, .int (nI (s_cu f (fun k => f (a + k))))), (0, .ref o), (1, .int (nI a))]), W p l e (rr 3 71) s m [.ref o, .int (nI a)].toArray below meth c s.heap [] 0 0 (MQ below (vp_Si (fun r => r = nI (s_re f (fun k => f (a + k))))) [.ref o, .int (nI a)].toArray s 0 0 (fun _ => False)) (F0 m 29 ls ([])) := by
    intro k_2
    induction k_2 with
    | zero => intro i hi hs hk_k_2 ls hl; exact absurd hk_k_2 (Nat.not_lt_zero _)
    | succ k_2 ih_3 =>
      intro i hi hs hk_k_2 ls hl
      refine lv_iload hx hb dX5_release_29 (lvG hl rfl) ?_
      refine lv_bipush (v := nI 20) hx hb dX5_release_31 (by decide) ?_
      refine n_icmp_gt (tgt := 56) hC dX5_release_33 (by omega) (by omega) (by decide) (fun zc33 => ?_) (fun zc33 => ?_)
      · refine lv_iload hx hb dX5_release_56 (lvG hl rfl) ?_
        refine lv_bipush (v := nI 20) hx hb dX5_release_58 (by decide) ?_
        refine n_icmp_le (tgt := 68) hC dX5_release_60 (by omega) (by omega) (by decide) (fun zc60 => ?_) (fun zc60 => ?_)
        · refine lv_iload hx hb dX5_release_68 (lvG hl rfl) ?_
          exact k_iret hC hr hlk dX5_release_70 (by unfold s_re; rw [← hs, s_rl_f (fun q => by first | omega | exact absurd q.2 (Int32.not_le.mpr zc47))]; first | (rw [if_pos (by omega)]; done) | (rw [if_neg (by omega)]; done))
        · refine lv_bipush (v := nI 20) hx hb dX5_release_63 (by decide) ?_
          refine lv_goto (tgt := 70) hx hb dX5_release_65 (by decide) ?_
          exact k_iret hC hr hlk dX5_release_70 (by unfold s_re; rw [← hs, s_rl_f (fun q => by first | omega | exact absurd q.2 (Int32.not_le.mpr zc47))]; first | (rw [if_pos (by omega)]; done) | (rw [if_neg (by omega)]; done))
      · refine lv_aload_n hx hb dX5_release_36 rfl (lvG hl rfl) ?_
        refine lv_iload_n hx hb dX5_release_37 rfl (lvG hl rfl) ?_
        refine lv_iload hx hb dX5_release_38 (lvG hl rfl) ?_
        refine k_callPI (k_goV (rest := []) hC hK (c_X5_constantAt l g o q f n a i (by first | assumption | omega)) L_X5_X5_constantAt (⟨⟨Nat.le_of_ble_eq_true rfl, Nat.le_of_ble_eq_true rfl⟩, ⟨rfl, rfl⟩, ⟨Nat.le_of_ble_eq_true rfl, Nat.le_of_ble_eq_true rfl⟩⟩) (hP.recv hK) (hP) rfl hl.1 rfl (Nat.le_of_ble_eq_true rfl) dX5_release_40) ?_
        refine lv_bipush (v := nI 100) hx hb dX5_release_43 (by decide) ?_
        refine lv_imul hx hb dX5_release_45 ?_
        refine lv_iload_n hx hb dX5_release_46 rfl (lvG hl rfl) ?_
        refine lv_icmp_lt (tgt := 56) hx hb dX5_release_47 (by decide) (fun zc47 => ?_) (fun zc47 => ?_)
        · refine lv_iload hx hb dX5_release_56 (lvG hl rfl) ?_
          refine lv_bipush (v := nI 20) hx hb dX5_release_58 (by decide) ?_
          refine n_icmp_le (tgt := 68) hC dX5_release_60 (by omega) (by omega) (by decide) (fun zc60 => ?_) (fun zc60 => ?_)
          · refine lv_iload hx hb dX5_release_68 (lvG hl rfl) ?_
            exact k_iret hC hr hlk dX5_release_70 (by unfold s_re; rw [← hs, s_rl_f (fun q => by first | omega | exact absurd q.2 (Int32.not_le.mpr zc47))]; first | (rw [if_pos (by omega)]; done) | (rw [if_neg (by omega)]; done))
          · refine lv_bipush (v := nI 20) hx hb dX5_release_63 (by decide) ?_
            refine lv_goto (tgt := 70) hx hb dX5_release_65 (by decide) ?_
            exact k_iret hC hr hlk dX5_release_70 (by unfold s_re; rw [← hs, s_rl_f (fun q => by first | omega | exact absurd q.2 (Int32.not_le.mpr zc47))]; first | (rw [if_pos (by omega)]; done) | (rw [if_neg (by omega)]; done))
        · refine n_iinc (lv' := [(4, .int (nI (i + 1))), (3, .int (bd)), (2, .int (nI (s_cu f (fun k => f (a + k))))), (0, .ref o), (1, .int (nI a))]) hC dX5_release_50 hl rfl (by decide) rfl (fun ls hl => ?_)
          refine lv_goto (tgt := 29) hx hb dX5_release_53 (by decide) ?_
          exact ih_3 (i + 1)  (by first | omega | assumption | rfl) (by rw [← hs, show 21 - i = (21 - (i + 1)) + 1 by omega, s_rl_t (by omega) (Int32.not_lt.mp zc47)]) (by omega) ls (lv_sub hl [0, 1, 2, 3, 4] rfl)
  exact key_1 ((21 - (s_cu f (fun k => f (a + k)) + 1)) + 1) (s_cu f (fun k => f (a + k)) + 1)  (by first | rfl | omega | assumption) (by rw [ebd]; exact s_rl_fuel _ _ _ _ _ _ (by omega) (by omega) (by omega)) (Nat.lt_succ_self _) ls (lv_sub hl [0, 1, 2, 3, 4] rfl)
set_option maxHeartbeats 4000000 in
set_option maxRecDepth 100000 in
theorem c_X5_compression (l : Launch) (g : kG) (o : Nat) (q : Nat) (f : Nat → Int32) (n : Nat) (a : Nat) (h : a + 42 ≤ 2552) : PI l yX5_compression cX5_compression 4 (some .int) (rr 1 25) [.ref o, .int (nI a)] ((RP g o q f n)) g (nI (s_cp f (fun k => f (a + k)))) := by
  refine kOf (by decide) (Nat.le_of_ble_eq_true rfl) (fun p e s m below meth c ls hC hr hlk hin hK hP hl => ?_)
  have hx := hC.1
  have hb := hC.2.1
  have hml := hC.2.2.1
  have hown := hC.2.2.2.1
  have hts := hC.2.2.2.2
  have hl : lv_has ls 4 [(0, .ref o), (1, .int (nI a))] := hl
  refine lv_aload_n hx hb dX5_compression_0 rfl (lvG hl rfl) ?_
  refine lv_iload_n hx hb dX5_compression_1 rfl (lvG hl rfl) ?_
  refine lv_bipush (v := nI 21) hx hb dX5_compression_2 (by decide) ?_
  refine n_iadd hC dX5_compression_4 ?_
  refine lv_iconst (v := nI 0) hx hb dX5_compression_5 (by decide) ?_
  refine k_callPI (k_goV (rest := []) hC hK (c_X5_extreme l g o q f n (a + 21) False (inferInstance) (by omega)) L_X5_X5_extreme (⟨⟨Nat.le_of_ble_eq_true rfl, Nat.le_of_ble_eq_true rfl⟩, ⟨rfl, rfl⟩, ⟨Nat.le_of_ble_eq_true rfl, Nat.le_of_ble_eq_true rfl⟩⟩) (hP.recv hK) (hP) rfl hl.1 rfl (Nat.le_of_ble_eq_true rfl) dX5_compression_6) ?_
  rw [ex_f (fun h => h)]
  refine lv_aload_n hx hb dX5_compression_9 rfl (lvG hl rfl) ?_
  refine r_row hC hK hP dX5_compression_10 ?_
  refine lv_bipush (v := nI 6) hx hb dX5_compression_13 (by decide) ?_
  refine r_ald (k := 6) hC hK hP (by omega) dX5_compression_15 ?_
  refine lv_iadd hx hb dX5_compression_16 ?_
  refine lv_topi (fun bd ebd => ?_)
  refine lv_istore_n (lv' := [(2, .int (bd)), (0, .ref o), (1, .int (nI a))]) hx hb dX5_compression_17 rfl hl (by decide) rfl (fun ls hl => ?_)
  refine lv_bipush (v := nI 21) hx hb dX5_compression_18 (by decide) ?_
  refine lv_istore_n (lv' := [(3, .int (nI 21)), (2, .int (bd)), (0, .ref o), (1, .int (nI a))]) hx hb dX5_compression_20 rfl hl (by decide) rfl (fun ls hl => ?_)
  have key_1 : ∀ (k_2 : Nat) (i : Nat)  (hi : i ≤ 21) (hs : s_cm (fun k => f (a + (21 + k))) bd i = s_cm (fun k => f (a + (21 + k))) bd 21) (hk_k_2 : i < k_2) (ls : Array Slot) (hl : lv_has ls 4 [(3, .int (nI i)), (2, .int (bd)), (0, .ref o), (1, .int (nI a))]), W p l e (rr 1 25) s m [.ref o, .int (nI a)].toArray below meth c s.heap [] 0 0 (MQ below (vp_Si (fun r => r = nI (s_cp f (fun k => f (a + k))))) [.ref o, .int (nI a)].toArray s 0 0 (fun _ => False)) (F0 m 21 ls ([])) := by
    intro k_2
    induction k_2 with
    | zero => intro i hi hs hk_k_2 ls hl; exact absurd hk_k_2 (Nat.not_lt_zero _)
    | succ k_2 ih_3 =>
      intro i hi hs hk_k_2 ls hl
      refine lv_iload_n hx hb dX5_compression_21 rfl (lvG hl rfl) ?_
      refine n_if_le (tgt := 48) hC dX5_compression_22 (by omega) (by decide) (fun zc22 => ?_) (fun zc22 => ?_)
      · refine lv_iload_n hx hb dX5_compression_48 rfl (lvG hl rfl) ?_
        refine lv_bipush (v := nI 20) hx hb dX5_compression_49 (by decide) ?_
        refine n_icmp_le (tgt := 59) hC dX5_compression_51 (by omega) (by omega) (by decide) (fun zc51 => ?_) (fun zc51 => ?_)
        · refine lv_iload_n hx hb dX5_compression_59 rfl (lvG hl rfl) ?_
          exact k_iret hC hr hlk dX5_compression_60 (by have hb2 : bd = s_mi (fun k => f (a + (21 + k))) 20 + f 6 := (by rw [ebd]; congr 2; funext k; rw [Nat.add_assoc]); unfold s_cp; rw [← hb2, ← hs]; first | (conv => { rhs; unfold s_cm }; rw [if_pos (show bd < f (a + (21 + z)) by rw [show a + (21 + z) = a + 21 + (z + 1) - 1 by omega]; exact zc39)]; first | (rw [if_pos (by omega)]; done) | (rw [if_neg (by omega)]; done)) | (exfalso; omega) | (rw [show i = 0 by omega]; rfl))
        · refine lv_bipush (v := nI 20) hx hb dX5_compression_54 (by decide) ?_
          refine lv_goto (tgt := 60) hx hb dX5_compression_56 (by decide) ?_
          exact k_iret hC hr hlk dX5_compression_60 (by have hb2 : bd = s_mi (fun k => f (a + (21 + k))) 20 + f 6 := (by rw [ebd]; congr 2; funext k; rw [Nat.add_assoc]); unfold s_cp; rw [← hb2, ← hs]; first | (conv => { rhs; unfold s_cm }; rw [if_pos (show bd < f (a + (21 + z)) by rw [show a + (21 + z) = a + 21 + (z + 1) - 1 by omega]; exact zc39)]; first | (rw [if_pos (by omega)]; done) | (rw [if_neg (by omega)]; done)) | (exfalso; omega) | (rw [show i = 0 by omega]; rfl))
      · obtain ⟨z, rfl⟩ : ∃ z, i = z + 1 := ⟨i - 1, by omega⟩
        refine lv_aload_n hx hb dX5_compression_25 rfl (lvG hl rfl) ?_
        refine r_row hC hK hP dX5_compression_26 ?_
        refine lv_iload_n hx hb dX5_compression_29 rfl (lvG hl rfl) ?_
        refine lv_bipush (v := nI 21) hx hb dX5_compression_30 (by decide) ?_
        refine n_iadd hC dX5_compression_32 ?_
        refine lv_iload_n hx hb dX5_compression_33 rfl (lvG hl rfl) ?_
        refine n_iadd hC dX5_compression_34 ?_
        refine lv_iconst (v := nI 1) hx hb dX5_compression_35 (by decide) ?_
        refine n_isub hC dX5_compression_36 (by omega) ?_
        refine r_ald (k := (a + 21 + (z + 1)) - 1) hC hK hP (by omega) dX5_compression_37 ?_
        refine lv_iload_n hx hb dX5_compression_38 rfl (lvG hl rfl) ?_
        refine lv_icmp_gt (tgt := 48) hx hb dX5_compression_39 (by decide) (fun zc39 => ?_) (fun zc39 => ?_)
        · refine lv_iload_n hx hb dX5_compression_48 rfl (lvG hl rfl) ?_
          refine lv_bipush (v := nI 20) hx hb dX5_compression_49 (by decide) ?_
          refine n_icmp_le (tgt := 59) hC dX5_compression_51 (by omega) (by omega) (by decide) (fun zc51 => ?_) (fun zc51 => ?_)
          · refine lv_iload_n hx hb dX5_compression_59 rfl (lvG hl rfl) ?_
            exact k_iret hC hr hlk dX5_compression_60 (by have hb2 : bd = s_mi (fun k => f (a + (21 + k))) 20 + f 6 := (by rw [ebd]; congr 2; funext k; rw [Nat.add_assoc]); unfold s_cp; rw [← hb2, ← hs]; first | (conv => { rhs; unfold s_cm }; rw [if_pos (show bd < f (a + (21 + z)) by rw [show a + (21 + z) = a + 21 + (z + 1) - 1 by omega]; exact zc39)]; first | (rw [if_pos (by omega)]; done) | (rw [if_neg (by omega)]; done)) | (exfalso; omega) | (rw [show i = 0 by omega]; rfl))
          · refine lv_bipush (v := nI 20) hx hb dX5_compression_54 (by decide) ?_
            refine lv_goto (tgt := 60) hx hb dX5_compression_56 (by decide) ?_
            exact k_iret hC hr hlk dX5_compression_60 (by have hb2 : bd = s_mi (fun k => f (a + (21 + k))) 20 + f 6 := (by rw [ebd]; congr 2; funext k; rw [Nat.add_assoc]); unfold s_cp; rw [← hb2, ← hs]; first | (conv => { rhs; unfold s_cm }; rw [if_pos (show bd < f (a + (21 + z)) by rw [show a + (21 + z) = a + 21 + (z + 1) - 1 by omega]; exact zc39)]; first | (rw [if_pos (by omega)]; done) | (rw [if_neg (by omega)]; done)) | (exfalso; omega) | (rw [show i = 0 by omega]; rfl))
        · refine n_idec (lv' := [(3, .int (nI z)), (2, .int (bd)), (0, .ref o), (1, .int (nI a))]) hC dX5_compression_42 hl rfl (by decide) rfl (fun ls hl => ?_)
          refine lv_goto (tgt := 21) hx hb dX5_compression_45 (by decide) ?_
          exact ih_3 z  (by first | omega | assumption | rfl) (by rw [← hs]; conv => { rhs; unfold s_cm }; rw [if_neg (fun q => zc39 (by rw [show a + 21 + (z + 1) - 1 = a + (21 + z) by omega]; exact q))]) (by omega) ls (lv_sub hl [0, 1, 2, 3] rfl)
  exact key_1 (21 + 1) 21  (by first | rfl | omega | assumption) (by first | rfl | omega | assumption) (Nat.lt_succ_self _) ls (lv_sub hl [0, 1, 2, 3] rfl)
def s_ev (f : Nat → Int32) (j ev : Nat) : Nat := if ev = 0 then s_ad f (s_pt f j) else if ev = 1 then s_cu f (s_pt f j) else if ev = 2 then s_re f (s_pt f j) else s_cp f (s_pt f j)
def s_la (f : Nat → Int32) (j ev : Nat) : Int32 := if ev = 3 then -(nI (s_ev f j ev) - f (8 + 4 * s_en f j + ev)) else nI (s_ev f j ev) - f (8 + 4 * s_en f j + ev)
def s_of (f : Nat → Int32) (j : Nat) (d : Int32) : Int32 := nI 0 + s_size (s_la f j 0 - d) + s_size (s_la f j 1 - d) + s_size (s_la f j 2 - d) + s_size (s_la f j 3 - d)
def s_s1 (f : Nat → Int32) (j : Nat) (b : Int32) (k : Nat) : Int32 := if s_of f j (-nI k) < s_of f j b then -nI k else b
def s_s2 (f : Nat → Int32) (j : Nat) (b : Int32) (k : Nat) : Int32 := if s_of f j (nI k) < s_of f j b then nI k else b
def s_sl (f : Nat → Int32) (j : Nat) : Nat → Int32
  | 0 => nI 0
  | k + 1 => s_s2 f j (s_s1 f j (s_sl f j k) (k + 1)) (k + 1)
theorem L_X5_X5_compression : LnkV RX5 122 yX5_compression cX5_compression 4 (some .int) 1 := ⟨w_862, w_864, w_46, w_60, w_865, ⟨by decide +kernel, by decide +kernel⟩, by decide +kernel⟩
theorem L_X5_X5_release : LnkV RX5 119 yX5_release cX5_release 5 (some .int) 1 := ⟨w_854, w_856, w_44, w_60, w_857, ⟨by decide +kernel, by decide +kernel⟩, by decide +kernel⟩
set_option maxHeartbeats 4000000 in
set_option maxRecDepth 100000 in
theorem c_X5_eventOf (l : Launch) (g : kG) (o : Nat) (q : Nat) (f : Nat → Int32) (n : Nat) (j : Nat) (ev : Nat) (cn : Nat) (hc : f 61 = nI cn) (hcn : cn ≤ 10) (hj : j < cn) (hX : ∀ j, j < cn → s_ad f (s_pt f j) ≤ 20) (hev : ev < 4) : PI l yX5_eventOf cX5_eventOf 4 (some .int) (rr 4 95) [.ref o, .int (nI j), .int (nI ev)] ((RP g o q f n)) g (nI (s_ev f j ev)) := by
  refine kOf (by decide) (Nat.le_of_ble_eq_true rfl) (fun p e s m below meth c ls hC hr hlk hin hK hP hl => ?_)
  have hx := hC.1
  have hb := hC.2.1
  have hml := hC.2.2.1
  have hown := hC.2.2.2.1
  have hts := hC.2.2.2.2
  have hl : lv_has ls 4 [(0, .ref o), (1, .int (nI j)), (2, .int (nI ev))] := hl
  refine lv_iload_n hx hb dX5_eventOf_0 rfl (lvG hl rfl) ?_
  refine k_callPI (k_goS (rest := []) hC hK (c_X5_at l g j) L_X5_X5_at (⟨⟨Nat.le_of_ble_eq_true rfl, Nat.le_of_ble_eq_true rfl⟩, ⟨rfl, rfl⟩, ⟨Nat.le_of_ble_eq_true rfl, Nat.le_of_ble_eq_true rfl⟩⟩) (trivial) rfl hl.1 rfl (Nat.le_of_ble_eq_true rfl) dX5_eventOf_1) ?_
  refine lv_istore_n (lv' := [(3, .int (nI (62 + 44 * j + 2))), (0, .ref o), (1, .int (nI j)), (2, .int (nI ev))]) hx hb dX5_eventOf_4 rfl hl (by decide) rfl (fun ls hl => ?_)
  refine lv_iload_n hx hb dX5_eventOf_5 rfl (lvG hl rfl) ?_
  refine n_if_ne (tgt := 17) hC dX5_eventOf_6 (by omega) (by decide) (fun zc6 => ?_) (fun zc6 => ?_)
  · refine lv_iload_n hx hb dX5_eventOf_17 rfl (lvG hl rfl) ?_
    refine lv_iconst (v := nI 1) hx hb dX5_eventOf_18 (by decide) ?_
    refine n_icmp_ne (tgt := 30) hC dX5_eventOf_19 (by omega) (by omega) (by decide) (fun zc19 => ?_) (fun zc19 => ?_)
    · refine lv_iload_n hx hb dX5_eventOf_30 rfl (lvG hl rfl) ?_
      refine lv_iconst (v := nI 2) hx hb dX5_eventOf_31 (by decide) ?_
      refine n_icmp_ne (tgt := 43) hC dX5_eventOf_32 (by omega) (by omega) (by decide) (fun zc32 => ?_) (fun zc32 => ?_)
      · refine lv_aload_n hx hb dX5_eventOf_43 rfl (lvG hl rfl) ?_
        refine lv_iload_n hx hb dX5_eventOf_44 rfl (lvG hl rfl) ?_
        refine k_callPI (k_goV (rest := []) hC hK (c_X5_compression l g o q f n (62 + 44 * j + 2) (by first | assumption | omega)) L_X5_X5_compression (⟨⟨Nat.le_of_ble_eq_true rfl, Nat.le_of_ble_eq_true rfl⟩, ⟨rfl, rfl⟩, ⟨Nat.le_of_ble_eq_true rfl, Nat.le_of_ble_eq_true rfl⟩⟩) (hP.recv hK) (hP) rfl hl.1 rfl (Nat.le_of_ble_eq_true rfl) dX5_eventOf_45) ?_
        exact k_iret hC hr hlk dX5_eventOf_48 (by unfold s_ev; first | (rw [if_pos zc6]; done) | (rw [if_neg zc6, if_pos zc19]; done) | (rw [if_neg zc6, if_neg zc19, if_pos zc32]; done) | (rw [if_neg zc6, if_neg zc19, if_neg zc32]; done))
      · refine lv_aload_n hx hb dX5_eventOf_35 rfl (lvG hl rfl) ?_
        refine lv_iload_n hx hb dX5_eventOf_36 rfl (lvG hl rfl) ?_
        refine k_callPI (k_goV (rest := []) hC hK (c_X5_release l g o q f n (62 + 44 * j + 2) (by first | assumption | omega) (hX j hj)) L_X5_X5_release (⟨⟨Nat.le_of_ble_eq_true rfl, Nat.le_of_ble_eq_true rfl⟩, ⟨rfl, rfl⟩, ⟨Nat.le_of_ble_eq_true rfl, Nat.le_of_ble_eq_true rfl⟩⟩) (hP.recv hK) (hP) rfl hl.1 rfl (Nat.le_of_ble_eq_true rfl) dX5_eventOf_37) ?_
        refine lv_goto (tgt := 48) hx hb dX5_eventOf_40 (by decide) ?_
        exact k_iret hC hr hlk dX5_eventOf_48 (by unfold s_ev; first | (rw [if_pos zc6]; done) | (rw [if_neg zc6, if_pos zc19]; done) | (rw [if_neg zc6, if_neg zc19, if_pos zc32]; done) | (rw [if_neg zc6, if_neg zc19, if_neg zc32]; done))
    · refine lv_aload_n hx hb dX5_eventOf_22 rfl (lvG hl rfl) ?_
      refine lv_iload_n hx hb dX5_eventOf_23 rfl (lvG hl rfl) ?_
      refine k_callPI (k_goV (rest := []) hC hK (c_X5_cutOff l g o q f n (62 + 44 * j + 2) (by first | assumption | omega) (hX j hj)) L_X5_X5_cutOff (⟨⟨Nat.le_of_ble_eq_true rfl, Nat.le_of_ble_eq_true rfl⟩, ⟨rfl, rfl⟩, ⟨Nat.le_of_ble_eq_true rfl, Nat.le_of_ble_eq_true rfl⟩⟩) (hP.recv hK) (hP) rfl hl.1 rfl (Nat.le_of_ble_eq_true rfl) dX5_eventOf_24) ?_
      refine lv_goto (tgt := 48) hx hb dX5_eventOf_27 (by decide) ?_
      exact k_iret hC hr hlk dX5_eventOf_48 (by unfold s_ev; first | (rw [if_pos zc6]; done) | (rw [if_neg zc6, if_pos zc19]; done) | (rw [if_neg zc6, if_neg zc19, if_pos zc32]; done) | (rw [if_neg zc6, if_neg zc19, if_neg zc32]; done))
  · refine lv_aload_n hx hb dX5_eventOf_9 rfl (lvG hl rfl) ?_
    refine lv_iload_n hx hb dX5_eventOf_10 rfl (lvG hl rfl) ?_
    refine k_callPI (k_goV (rest := []) hC hK (c_X5_admission l g o q f n (62 + 44 * j + 2) (by first | assumption | omega) (hX j hj)) L_X5_X5_admission (⟨⟨Nat.le_of_ble_eq_true rfl, Nat.le_of_ble_eq_true rfl⟩, ⟨rfl, rfl⟩, ⟨Nat.le_of_ble_eq_true rfl, Nat.le_of_ble_eq_true rfl⟩⟩) (hP.recv hK) (hP) rfl hl.1 rfl (Nat.le_of_ble_eq_true rfl) dX5_eventOf_11) ?_
    refine lv_goto (tgt := 48) hx hb dX5_eventOf_14 (by decide) ?_
    exact k_iret hC hr hlk dX5_eventOf_48 (by unfold s_ev; first | (rw [if_pos zc6]; done) | (rw [if_neg zc6, if_pos zc19]; done) | (rw [if_neg zc6, if_neg zc19, if_pos zc32]; done) | (rw [if_neg zc6, if_neg zc19, if_neg zc32]; done))
theorem L_X5_X5_eventOf : LnkV RX5 125 yX5_eventOf cX5_eventOf 4 (some .int) 2 := ⟨w_838, w_840, w_40, w_60, w_841, ⟨by decide +kernel, by decide +kernel⟩, by decide +kernel⟩
set_option maxHeartbeats 4000000 in
set_option maxRecDepth 100000 in
theorem c_X5_latenessOf (l : Launch) (g : kG) (o : Nat) (q : Nat) (f : Nat → Int32) (n : Nat) (j : Nat) (ev : Nat) (cn : Nat) (hc : f 61 = nI cn) (hcn : cn ≤ 10) (hj : j < cn) (hX : ∀ j, j < cn → s_ad f (s_pt f j) ≤ 20) (hE : ∀ j, j < cn → f (62 + 44 * j) = nI (s_en f j) ∧ s_en f j ≤ 1) (hev : ev < 4) : PI l yX5_latenessOf cX5_latenessOf 4 (some .int) (rr 5 118) [.ref o, .int (nI j), .int (nI ev)] ((RP g o q f n)) g (s_la f j ev) := by
  refine kOf (by decide) (Nat.le_of_ble_eq_true rfl) (fun p e s m below meth c ls hC hr hlk hin hK hP hl => ?_)
  have hx := hC.1
  have hb := hC.2.1
  have hml := hC.2.2.1
  have hown := hC.2.2.2.1
  have hts := hC.2.2.2.2
  have hl : lv_has ls 4 [(0, .ref o), (1, .int (nI j)), (2, .int (nI ev))] := hl
  have hE1 := (hE j hj).2
  refine lv_aload_n hx hb dX5_latenessOf_0 rfl (lvG hl rfl) ?_
  refine lv_iload_n hx hb dX5_latenessOf_1 rfl (lvG hl rfl) ?_
  refine lv_iload_n hx hb dX5_latenessOf_2 rfl (lvG hl rfl) ?_
  refine k_callPI (k_goV (rest := []) hC hK (c_X5_eventOf l g o q f n j ev cn hc hcn hj hX hev) L_X5_X5_eventOf (⟨⟨Nat.le_of_ble_eq_true rfl, Nat.le_of_ble_eq_true rfl⟩, ⟨rfl, rfl⟩, ⟨Nat.le_of_ble_eq_true rfl, Nat.le_of_ble_eq_true rfl⟩⟩) (hP.recv hK) (hP) rfl hl.1 rfl (Nat.le_of_ble_eq_true rfl) dX5_latenessOf_3) ?_
  refine lv_aload_n hx hb dX5_latenessOf_6 rfl (lvG hl rfl) ?_
  refine lv_aload_n hx hb dX5_latenessOf_7 rfl (lvG hl rfl) ?_
  refine r_row hC hK hP dX5_latenessOf_8 ?_
  refine lv_iload_n hx hb dX5_latenessOf_11 rfl (lvG hl rfl) ?_
  refine k_callPI (k_goS (rest := [.ref q, .ref o, .int (nI (s_ev f j ev))]) hC hK (c_X5_endAt l g j) L_X5_X5_endAt (⟨⟨Nat.le_of_ble_eq_true rfl, Nat.le_of_ble_eq_true rfl⟩, ⟨rfl, rfl⟩, ⟨Nat.le_of_ble_eq_true rfl, Nat.le_of_ble_eq_true rfl⟩⟩) (trivial) rfl hl.1 rfl (Nat.le_of_ble_eq_true rfl) dX5_latenessOf_12) ?_
  refine r_ald (k := 62 + 44 * j) hC hK hP (by omega) dX5_latenessOf_15 ?_
  rw [(hE j hj).1]
  refine lv_iload_n hx hb dX5_latenessOf_16 rfl (lvG hl rfl) ?_
  refine k_callPI (k_goV (rest := [.int (nI (s_ev f j ev))]) hC hK (c_X5_valveOf l g o q f n (s_en f (j)) ev (by first | assumption | omega)) L_X5_X5_valveOf (⟨⟨Nat.le_of_ble_eq_true rfl, Nat.le_of_ble_eq_true rfl⟩, ⟨rfl, rfl⟩, ⟨Nat.le_of_ble_eq_true rfl, Nat.le_of_ble_eq_true rfl⟩⟩) (hP.recv hK) (hP) rfl hl.1 rfl (Nat.le_of_ble_eq_true rfl) dX5_latenessOf_17) ?_
  refine lv_isub hx hb dX5_latenessOf_20 ?_
  refine lv_istore_n (lv' := [(3, .int ((nI (s_ev f j ev)) - (f (8 + 4 * (s_en f (j)) + ev)))), (0, .ref o), (1, .int (nI j)), (2, .int (nI ev))]) hx hb dX5_latenessOf_21 rfl hl (by decide) rfl (fun ls hl => ?_)
  refine lv_iload_n hx hb dX5_latenessOf_22 rfl (lvG hl rfl) ?_
  refine lv_iconst (v := nI 3) hx hb dX5_latenessOf_23 (by decide) ?_
  refine n_icmp_ne (tgt := 32) hC dX5_latenessOf_24 (by omega) (by omega) (by decide) (fun zc24 => ?_) (fun zc24 => ?_)
  · refine lv_iload_n hx hb dX5_latenessOf_32 rfl (lvG hl rfl) ?_
    exact k_iret hC hr hlk dX5_latenessOf_33 (by unfold s_la; first | (rw [if_pos zc24]; done) | (rw [if_neg zc24]; done))
  · refine lv_iload_n hx hb dX5_latenessOf_27 rfl (lvG hl rfl) ?_
    refine lv_ineg hx hb dX5_latenessOf_28 ?_
    refine lv_goto (tgt := 33) hx hb dX5_latenessOf_29 (by decide) ?_
    exact k_iret hC hr hlk dX5_latenessOf_33 (by unfold s_la; first | (rw [if_pos zc24]; done) | (rw [if_neg zc24]; done))
set_option maxHeartbeats 4000000 in
set_option maxRecDepth 100000 in
theorem c_X5_event (l : Launch) (g : kG) (o : Nat) (q : Nat) (f : Nat → Int32) (n : Nat) (v : Int32) (ev : Int32) (cn : Nat) (hc : f 61 = nI cn) (hcn : cn ≤ 10) (hX : ∀ j, j < cn → s_ad f (s_pt f j) ≤ 20) : PI l yX5_event cX5_event 3 (some .int) (rr 5 118) [.ref o, .int (v), .int (ev)] ((RP g o q f n)) g (if s_okC f v ∧ (nI 0 ≤ ev ∧ ev ≤ nI 3) then nI (s_ev f (v).toNatClampNeg (ev).toNatClampNeg) else cINV) := by
  refine kOf (by decide) (Nat.le_of_ble_eq_true rfl) (fun p e s m below meth c ls hC hr hlk hin hK hP hl => ?_)
  have hx := hC.1
  have hb := hC.2.1
  have hml := hC.2.2.1
  have hown := hC.2.2.2.1
  have hts := hC.2.2.2.2
  have hl : lv_has ls 3 [(0, .ref o), (1, .int (v)), (2, .int (ev))] := hl
  refine lv_aload_n hx hb dX5_event_0 rfl (lvG hl rfl) ?_
  refine lv_iload_n hx hb dX5_event_1 rfl (lvG hl rfl) ?_
  refine k_callPI (k_goV (rest := []) hC hK (c_X5_isCard l g o q f n v) L_X5_X5_isCard (⟨⟨Nat.le_of_ble_eq_true rfl, Nat.le_of_ble_eq_true rfl⟩, ⟨rfl, rfl⟩, ⟨Nat.le_of_ble_eq_true rfl, Nat.le_of_ble_eq_true rfl⟩⟩) (hP.recv hK) (hP) rfl hl.1 rfl (Nat.le_of_ble_eq_true rfl) dX5_event_2) ?_
  refine b_ifeq (tgt := 26) hC dX5_event_5 (by decide) (fun zc5 => ?_) (fun zc5 => ?_)
  · refine lv_ldc (v := (-2000000001 : Int32)) hx hb hown (hts _ w_669) dX5_event_26 ?_
    exact k_iret hC hr hlk dX5_event_28 (by first | (rw [if_pos ⟨zc5, zc14⟩, e_j, e_k]; done) | (rw [if_neg (by grind)]; done))
  · refine lv_iload_n hx hb dX5_event_8 rfl (lvG hl rfl) ?_
    refine lv_iconst (v := nI 0) hx hb dX5_event_9 (by decide) ?_
    refine lv_iconst (v := nI 3) hx hb dX5_event_10 (by decide) ?_
    refine k_callPI (k_goS (rest := []) hC hK (c_X5_in l g ev (nI 0) (nI 3)) L_X5_X5_in (⟨⟨Nat.le_of_ble_eq_true rfl, Nat.le_of_ble_eq_true rfl⟩, ⟨rfl, rfl⟩, ⟨Nat.le_of_ble_eq_true rfl, Nat.le_of_ble_eq_true rfl⟩⟩) (trivial) rfl hl.1 rfl (Nat.le_of_ble_eq_true rfl) dX5_event_11) ?_
    refine b_ifeq (tgt := 26) hC dX5_event_14 (by decide) (fun zc14 => ?_) (fun zc14 => ?_)
    · refine lv_ldc (v := (-2000000001 : Int32)) hx hb hown (hts _ w_669) dX5_event_26 ?_
      exact k_iret hC hr hlk dX5_event_28 (by first | (rw [if_pos ⟨zc5, zc14⟩, e_j, e_k]; done) | (rw [if_neg (by grind)]; done))
    · obtain ⟨j, h_j, ev_j⟩ := in_card (v := v) hcn hc (zc5)
      have e_j : (v).toNatClampNeg = j := by rw [ev_j]; exact nI_clamp (by omega)
      have hl : lv_has ls 3 [(0, .ref o), (1, .int (nI j)), (2, .int (ev))] := lv_eq hl (by rw [ev_j])
      obtain ⟨k, h_k, ev_k⟩ := in_nat (by decide) (zc14)
      have e_k : (ev).toNatClampNeg = k := by rw [ev_k]; exact nI_clamp (by omega)
      have hl : lv_has ls 3 [(0, .ref o), (1, .int (nI j)), (2, .int (nI k))] := lv_eq hl (by rw [ev_k])
      refine lv_aload_n hx hb dX5_event_17 rfl (lvG hl rfl) ?_
      refine lv_iload_n hx hb dX5_event_18 rfl (lvG hl rfl) ?_
      refine lv_iload_n hx hb dX5_event_19 rfl (lvG hl rfl) ?_
      refine k_callPI (k_goV (rest := []) hC hK (c_X5_eventOf l g o q f n j k cn hc hcn (by first | assumption | omega) hX (by first | assumption | omega)) L_X5_X5_eventOf (⟨⟨Nat.le_of_ble_eq_true rfl, Nat.le_of_ble_eq_true rfl⟩, ⟨rfl, rfl⟩, ⟨Nat.le_of_ble_eq_true rfl, Nat.le_of_ble_eq_true rfl⟩⟩) (hP.recv hK) (hP) rfl hl.1 rfl (Nat.le_of_ble_eq_true rfl) dX5_event_20) ?_
      refine lv_goto (tgt := 28) hx hb dX5_event_23 (by decide) ?_
      exact k_iret hC hr hlk dX5_event_28 (by first | (rw [if_pos ⟨zc5, zc14⟩, e_j, e_k]; done) | (rw [if_neg (by grind)]; done))
theorem L_X5_X5_latenessOf : LnkV RX5 128 yX5_latenessOf cX5_latenessOf 4 (some .int) 2 := ⟨w_870, w_872, w_47, w_60, w_873, ⟨by decide +kernel, by decide +kernel⟩, by decide +kernel⟩
set_option maxHeartbeats 4000000 in
set_option maxRecDepth 100000 in
theorem c_X5_lateness (l : Launch) (g : kG) (o : Nat) (q : Nat) (f : Nat → Int32) (n : Nat) (v : Int32) (ev : Int32) (cn : Nat) (hc : f 61 = nI cn) (hcn : cn ≤ 10) (hX : ∀ j, j < cn → s_ad f (s_pt f j) ≤ 20) (hE : ∀ j, j < cn → f (62 + 44 * j) = nI (s_en f j) ∧ s_en f j ≤ 1) : PI l yX5_lateness cX5_lateness 3 (some .int) (rr 6 141) [.ref o, .int (v), .int (ev)] ((RP g o q f n)) g (if s_okC f v ∧ (nI 0 ≤ ev ∧ ev ≤ nI 3) then s_la f (v).toNatClampNeg (ev).toNatClampNeg else cINV) := by
  refine kOf (by decide) (Nat.le_of_ble_eq_true rfl) (fun p e s m below meth c ls hC hr hlk hin hK hP hl => ?_)
  have hx := hC.1
  have hb := hC.2.1
  have hml := hC.2.2.1
  have hown := hC.2.2.2.1
  have hts := hC.2.2.2.2
  have hl : lv_has ls 3 [(0, .ref o), (1, .int (v)), (2, .int (ev))] := hl
  refine lv_aload_n hx hb dX5_lateness_0 rfl (lvG hl rfl) ?_
  refine lv_iload_n hx hb dX5_lateness_1 rfl (lvG hl rfl) ?_
  refine k_callPI (k_goV (rest := []) hC hK (c_X5_isCard l g o q f n v) L_X5_X5_isCard (⟨⟨Nat.le_of_ble_eq_true rfl, Nat.le_of_ble_eq_true rfl⟩, ⟨rfl, rfl⟩, ⟨Nat.le_of_ble_eq_true rfl, Nat.le_of_ble_eq_true rfl⟩⟩) (hP.recv hK) (hP) rfl hl.1 rfl (Nat.le_of_ble_eq_true rfl) dX5_lateness_2) ?_
  refine b_ifeq (tgt := 26) hC dX5_lateness_5 (by decide) (fun zc5 => ?_) (fun zc5 => ?_)
  · refine lv_ldc (v := (-2000000001 : Int32)) hx hb hown (hts _ w_669) dX5_lateness_26 ?_
    exact k_iret hC hr hlk dX5_lateness_28 (by first | (rw [if_pos ⟨zc5, zc14⟩, e_j, e_k]; done) | (rw [if_neg (by grind)]; done))
  · refine lv_iload_n hx hb dX5_lateness_8 rfl (lvG hl rfl) ?_
    refine lv_iconst (v := nI 0) hx hb dX5_lateness_9 (by decide) ?_
    refine lv_iconst (v := nI 3) hx hb dX5_lateness_10 (by decide) ?_
    refine k_callPI (k_goS (rest := []) hC hK (c_X5_in l g ev (nI 0) (nI 3)) L_X5_X5_in (⟨⟨Nat.le_of_ble_eq_true rfl, Nat.le_of_ble_eq_true rfl⟩, ⟨rfl, rfl⟩, ⟨Nat.le_of_ble_eq_true rfl, Nat.le_of_ble_eq_true rfl⟩⟩) (trivial) rfl hl.1 rfl (Nat.le_of_ble_eq_true rfl) dX5_lateness_11) ?_
    refine b_ifeq (tgt := 26) hC dX5_lateness_14 (by decide) (fun zc14 => ?_) (fun zc14 => ?_)
    · refine lv_ldc (v := (-2000000001 : Int32)) hx hb hown (hts _ w_669) dX5_lateness_26 ?_
      exact k_iret hC hr hlk dX5_lateness_28 (by first | (rw [if_pos ⟨zc5, zc14⟩, e_j, e_k]; done) | (rw [if_neg (by grind)]; done))
    · obtain ⟨j, h_j, ev_j⟩ := in_card (v := v) hcn hc (zc5)
      have e_j : (v).toNatClampNeg = j := by rw [ev_j]; exact nI_clamp (by omega)
      have hl : lv_has ls 3 [(0, .ref o), (1, .int (nI j)), (2, .int (ev))] := lv_eq hl (by rw [ev_j])
      obtain ⟨k, h_k, ev_k⟩ := in_nat (by decide) (zc14)
      have e_k : (ev).toNatClampNeg = k := by rw [ev_k]; exact nI_clamp (by omega)
      have hl : lv_has ls 3 [(0, .ref o), (1, .int (nI j)), (2, .int (nI k))] := lv_eq hl (by rw [ev_k])
      refine lv_aload_n hx hb dX5_lateness_17 rfl (lvG hl rfl) ?_
      refine lv_iload_n hx hb dX5_lateness_18 rfl (lvG hl rfl) ?_
      refine lv_iload_n hx hb dX5_lateness_19 rfl (lvG hl rfl) ?_
      refine k_callPI (k_goV (rest := []) hC hK (c_X5_latenessOf l g o q f n j k cn hc hcn (by first | assumption | omega) hX hE (by first | assumption | omega)) L_X5_X5_latenessOf (⟨⟨Nat.le_of_ble_eq_true rfl, Nat.le_of_ble_eq_true rfl⟩, ⟨rfl, rfl⟩, ⟨Nat.le_of_ble_eq_true rfl, Nat.le_of_ble_eq_true rfl⟩⟩) (hP.recv hK) (hP) rfl hl.1 rfl (Nat.le_of_ble_eq_true rfl) dX5_lateness_20) ?_
      refine lv_goto (tgt := 28) hx hb dX5_lateness_23 (by decide) ?_
      exact k_iret hC hr hlk dX5_lateness_28 (by first | (rw [if_pos ⟨zc5, zc14⟩, e_j, e_k]; done) | (rw [if_neg (by grind)]; done))
set_option maxHeartbeats 4000000 in
set_option maxRecDepth 100000 in
theorem c_X5_offBy (l : Launch) (g : kG) (o : Nat) (q : Nat) (f : Nat → Int32) (n : Nat) (j : Nat) (d : Int32) (cn : Nat) (hc : f 61 = nI cn) (hcn : cn ≤ 10) (hj : j < cn) (hX : ∀ j, j < cn → s_ad f (s_pt f j) ≤ 20) (hE : ∀ j, j < cn → f (62 + 44 * j) = nI (s_en f j) ∧ s_en f j ≤ 1) : PI l yX5_offBy cX5_offBy 5 (some .int) (rr 6 141) [.ref o, .int (nI j), .int (d)] ((RP g o q f n)) g (s_of f j d) := by
  refine kOf (by decide) (Nat.le_of_ble_eq_true rfl) (fun p e s m below meth c ls hC hr hlk hin hK hP hl => ?_)
  have hx := hC.1
  have hb := hC.2.1
  have hml := hC.2.2.1
  have hown := hC.2.2.2.1
  have hts := hC.2.2.2.2
  have hl : lv_has ls 5 [(0, .ref o), (1, .int (nI j)), (2, .int (d))] := hl
  refine lv_iconst (v := nI 0) hx hb dX5_offBy_0 (by decide) ?_
  refine lv_istore_n (lv' := [(3, .int (nI 0)), (0, .ref o), (1, .int (nI j)), (2, .int (d))]) hx hb dX5_offBy_1 rfl hl (by decide) rfl (fun ls hl => ?_)
  refine lv_iconst (v := nI 0) hx hb dX5_offBy_2 (by decide) ?_
  refine lv_istore (lv' := [(4, .int (nI 0)), (3, .int (nI 0)), (0, .ref o), (1, .int (nI j)), (2, .int (d))]) hx hb dX5_offBy_3 hl (by decide) rfl (fun ls hl => ?_)
  refine lv_iload hx hb dX5_offBy_5 (lvG hl rfl) ?_
  refine lv_iconst (v := nI 4) hx hb dX5_offBy_7 (by decide) ?_
  refine n_icmp_ge (tgt := 32) hC dX5_offBy_8 (by decide) (by decide) (by decide) (fun c => absurd c (by decide)) (fun _ => ?_)
  refine lv_iload_n hx hb dX5_offBy_11 rfl (lvG hl rfl) ?_
  refine lv_aload_n hx hb dX5_offBy_12 rfl (lvG hl rfl) ?_
  refine lv_iload_n hx hb dX5_offBy_13 rfl (lvG hl rfl) ?_
  refine lv_iload hx hb dX5_offBy_14 (lvG hl rfl) ?_
  refine k_callPI (k_goV (rest := [.int (nI 0)]) hC hK (c_X5_latenessOf l g o q f n j 0 cn hc hcn hj hX hE (by first | assumption | omega)) L_X5_X5_latenessOf (⟨⟨Nat.le_of_ble_eq_true rfl, Nat.le_of_ble_eq_true rfl⟩, ⟨rfl, rfl⟩, ⟨Nat.le_of_ble_eq_true rfl, Nat.le_of_ble_eq_true rfl⟩⟩) (hP.recv hK) (hP) rfl hl.1 rfl (Nat.le_of_ble_eq_true rfl) dX5_offBy_16) ?_
  refine lv_iload_n hx hb dX5_offBy_19 rfl (lvG hl rfl) ?_
  refine lv_isub hx hb dX5_offBy_20 ?_
  refine k_callPI (k_goS (rest := [.int (nI 0)]) hC hK (c_X5_size l g ((s_la f j 0) - d)) L_X5_X5_size (⟨⟨Nat.le_of_ble_eq_true rfl, Nat.le_of_ble_eq_true rfl⟩, ⟨rfl, rfl⟩, ⟨Nat.le_of_ble_eq_true rfl, Nat.le_of_ble_eq_true rfl⟩⟩) (trivial) rfl hl.1 rfl (Nat.le_of_ble_eq_true rfl) dX5_offBy_21) ?_
  refine lv_iadd hx hb dX5_offBy_24 ?_
  refine lv_istore_n (lv' := [(3, .int ((nI 0) + (s_size ((s_la f j 0) - d)))), (4, .int (nI 0)), (0, .ref o), (1, .int (nI j)), (2, .int (d))]) hx hb dX5_offBy_25 rfl hl (by decide) rfl (fun ls hl => ?_)
  refine n_iinc (lv' := [(4, .int (nI 1)), (3, .int ((nI 0) + (s_size ((s_la f j 0) - d)))), (0, .ref o), (1, .int (nI j)), (2, .int (d))]) hC dX5_offBy_26 hl rfl (by decide) rfl (fun ls hl => ?_)
  refine lv_goto (tgt := 5) hx hb dX5_offBy_29 (by decide) ?_
  refine lv_iload hx hb dX5_offBy_5 (lvG hl rfl) ?_
  refine lv_iconst (v := nI 4) hx hb dX5_offBy_7 (by decide) ?_
  refine n_icmp_ge (tgt := 32) hC dX5_offBy_8 (by decide) (by decide) (by decide) (fun c => absurd c (by decide)) (fun _ => ?_)
  refine lv_iload_n hx hb dX5_offBy_11 rfl (lvG hl rfl) ?_
  refine lv_aload_n hx hb dX5_offBy_12 rfl (lvG hl rfl) ?_
  refine lv_iload_n hx hb dX5_offBy_13 rfl (lvG hl rfl) ?_
  refine lv_iload hx hb dX5_offBy_14 (lvG hl rfl) ?_
  refine k_callPI (k_goV (rest := [.int ((nI 0) + (s_size ((s_la f j 0) - d)))]) hC hK (c_X5_latenessOf l g o q f n j 1 cn hc hcn hj hX hE (by first | assumption | omega)) L_X5_X5_latenessOf (⟨⟨Nat.le_of_ble_eq_true rfl, Nat.le_of_ble_eq_true rfl⟩, ⟨rfl, rfl⟩, ⟨Nat.le_of_ble_eq_true rfl, Nat.le_of_ble_eq_true rfl⟩⟩) (hP.recv hK) (hP) rfl hl.1 rfl (Nat.le_of_ble_eq_true rfl) dX5_offBy_16) ?_
  refine lv_iload_n hx hb dX5_offBy_19 rfl (lvG hl rfl) ?_
  refine lv_isub hx hb dX5_offBy_20 ?_
  refine k_callPI (k_goS (rest := [.int ((nI 0) + (s_size ((s_la f j 0) - d)))]) hC hK (c_X5_size l g ((s_la f j 1) - d)) L_X5_X5_size (⟨⟨Nat.le_of_ble_eq_true rfl, Nat.le_of_ble_eq_true rfl⟩, ⟨rfl, rfl⟩, ⟨Nat.le_of_ble_eq_true rfl, Nat.le_of_ble_eq_true rfl⟩⟩) (trivial) rfl hl.1 rfl (Nat.le_of_ble_eq_true rfl) dX5_offBy_21) ?_
  refine lv_iadd hx hb dX5_offBy_24 ?_
  refine lv_istore_n (lv' := [(3, .int (((nI 0) + (s_size ((s_la f j 0) - d))) + (s_size ((s_la f j 1) - d)))), (4, .int (nI 1)), (0, .ref o), (1, .int (nI j)), (2, .int (d))]) hx hb dX5_offBy_25 rfl hl (by decide) rfl (fun ls hl => ?_)
  refine n_iinc (lv' := [(4, .int (nI 2)), (3, .int (((nI 0) + (s_size ((s_la f j 0) - d))) + (s_size ((s_la f j 1) - d)))), (0, .ref o), (1, .int (nI j)), (2, .int (d))]) hC dX5_offBy_26 hl rfl (by decide) rfl (fun ls hl => ?_)
  refine lv_goto (tgt := 5) hx hb dX5_offBy_29 (by decide) ?_
  refine lv_iload hx hb dX5_offBy_5 (lvG hl rfl) ?_
  refine lv_iconst (v := nI 4) hx hb dX5_offBy_7 (by decide) ?_
  refine n_icmp_ge (tgt := 32) hC dX5_offBy_8 (by decide) (by decide) (by decide) (fun c => absurd c (by decide)) (fun _ => ?_)
  refine lv_iload_n hx hb dX5_offBy_11 rfl (lvG hl rfl) ?_
  refine lv_aload_n hx hb dX5_offBy_12 rfl (lvG hl rfl) ?_
  refine lv_iload_n hx hb dX5_offBy_13 rfl (lvG hl rfl) ?_
  refine lv_iload hx hb dX5_offBy_14 (lvG hl rfl) ?_
  refine k_callPI (k_goV (rest := [.int (((nI 0) + (s_size ((s_la f j 0) - d))) + (s_size ((s_la f j 1) - d)))]) hC hK (c_X5_latenessOf l g o q f n j 2 cn hc hcn hj hX hE (by first | assumption | omega)) L_X5_X5_latenessOf (⟨⟨Nat.le_of_ble_eq_true rfl, Nat.le_of_ble_eq_true rfl⟩, ⟨rfl, rfl⟩, ⟨Nat.le_of_ble_eq_true rfl, Nat.le_of_ble_eq_true rfl⟩⟩) (hP.recv hK) (hP) rfl hl.1 rfl (Nat.le_of_ble_eq_true rfl) dX5_offBy_16) ?_
  refine lv_iload_n hx hb dX5_offBy_19 rfl (lvG hl rfl) ?_
  refine lv_isub hx hb dX5_offBy_20 ?_
  refine k_callPI (k_goS (rest := [.int (((nI 0) + (s_size ((s_la f j 0) - d))) + (s_size ((s_la f j 1) - d)))]) hC hK (c_X5_size l g ((s_la f j 2) - d)) L_X5_X5_size (⟨⟨Nat.le_of_ble_eq_true rfl, Nat.le_of_ble_eq_true rfl⟩, ⟨rfl, rfl⟩, ⟨Nat.le_of_ble_eq_true rfl, Nat.le_of_ble_eq_true rfl⟩⟩) (trivial) rfl hl.1 rfl (Nat.le_of_ble_eq_true rfl) dX5_offBy_21) ?_
  refine lv_iadd hx hb dX5_offBy_24 ?_
  refine lv_istore_n (lv' := [(3, .int ((((nI 0) + (s_size ((s_la f j 0) - d))) + (s_size ((s_la f j 1) - d))) + (s_size ((s_la f j 2) - d)))), (4, .int (nI 2)), (0, .ref o), (1, .int (nI j)), (2, .int (d))]) hx hb dX5_offBy_25 rfl hl (by decide) rfl (fun ls hl => ?_)
  refine n_iinc (lv' := [(4, .int (nI 3)), (3, .int ((((nI 0) + (s_size ((s_la f j 0) - d))) + (s_size ((s_la f j 1) - d))) + (s_size ((s_la f j 2) - d)))), (0, .ref o), (1, .int (nI j)), (2, .int (d))]) hC dX5_offBy_26 hl rfl (by decide) rfl (fun ls hl => ?_)
  refine lv_goto (tgt := 5) hx hb dX5_offBy_29 (by decide) ?_
  refine lv_iload hx hb dX5_offBy_5 (lvG hl rfl) ?_
  refine lv_iconst (v := nI 4) hx hb dX5_offBy_7 (by decide) ?_
  refine n_icmp_ge (tgt := 32) hC dX5_offBy_8 (by decide) (by decide) (by decide) (fun c => absurd c (by decide)) (fun _ => ?_)
  refine lv_iload_n hx hb dX5_offBy_11 rfl (lvG hl rfl) ?_
  refine lv_aload_n hx hb dX5_offBy_12 rfl (lvG hl rfl) ?_
  refine lv_iload_n hx hb dX5_offBy_13 rfl (lvG hl rfl) ?_
  refine lv_iload hx hb dX5_offBy_14 (lvG hl rfl) ?_
  refine k_callPI (k_goV (rest := [.int ((((nI 0) + (s_size ((s_la f j 0) - d))) + (s_size ((s_la f j 1) - d))) + (s_size ((s_la f j 2) - d)))]) hC hK (c_X5_latenessOf l g o q f n j 3 cn hc hcn hj hX hE (by first | assumption | omega)) L_X5_X5_latenessOf (⟨⟨Nat.le_of_ble_eq_true rfl, Nat.le_of_ble_eq_true rfl⟩, ⟨rfl, rfl⟩, ⟨Nat.le_of_ble_eq_true rfl, Nat.le_of_ble_eq_true rfl⟩⟩) (hP.recv hK) (hP) rfl hl.1 rfl (Nat.le_of_ble_eq_true rfl) dX5_offBy_16) ?_
  refine lv_iload_n hx hb dX5_offBy_19 rfl (lvG hl rfl) ?_
  refine lv_isub hx hb dX5_offBy_20 ?_
  refine k_callPI (k_goS (rest := [.int ((((nI 0) + (s_size ((s_la f j 0) - d))) + (s_size ((s_la f j 1) - d))) + (s_size ((s_la f j 2) - d)))]) hC hK (c_X5_size l g ((s_la f j 3) - d)) L_X5_X5_size (⟨⟨Nat.le_of_ble_eq_true rfl, Nat.le_of_ble_eq_true rfl⟩, ⟨rfl, rfl⟩, ⟨Nat.le_of_ble_eq_true rfl, Nat.le_of_ble_eq_true rfl⟩⟩) (trivial) rfl hl.1 rfl (Nat.le_of_ble_eq_true rfl) dX5_offBy_21) ?_
  refine lv_iadd hx hb dX5_offBy_24 ?_
  refine lv_istore_n (lv' := [(3, .int (((((nI 0) + (s_size ((s_la f j 0) - d))) + (s_size ((s_la f j 1) - d))) + (s_size ((s_la f j 2) - d))) + (s_size ((s_la f j 3) - d)))), (4, .int (nI 3)), (0, .ref o), (1, .int (nI j)), (2, .int (d))]) hx hb dX5_offBy_25 rfl hl (by decide) rfl (fun ls hl => ?_)
  refine n_iinc (lv' := [(4, .int (nI 4)), (3, .int (((((nI 0) + (s_size ((s_la f j 0) - d))) + (s_size ((s_la f j 1) - d))) + (s_size ((s_la f j 2) - d))) + (s_size ((s_la f j 3) - d)))), (0, .ref o), (1, .int (nI j)), (2, .int (d))]) hC dX5_offBy_26 hl rfl (by decide) rfl (fun ls hl => ?_)
  refine lv_goto (tgt := 5) hx hb dX5_offBy_29 (by decide) ?_
  refine lv_iload hx hb dX5_offBy_5 (lvG hl rfl) ?_
  refine lv_iconst (v := nI 4) hx hb dX5_offBy_7 (by decide) ?_
  refine n_icmp_ge (tgt := 32) hC dX5_offBy_8 (by decide) (by decide) (by decide) (fun _ => ?_) (fun c => absurd c (by decide))
  refine lv_iload_n hx hb dX5_offBy_32 rfl (lvG hl rfl) ?_
  exact k_iret hC hr hlk dX5_offBy_33 (by first | rfl | grind [] | grind [nI])
theorem L_X5_X5_offBy : LnkV RX5 134 yX5_offBy cX5_offBy 5 (some .int) 2 := ⟨w_878, w_880, w_48, w_60, w_881, ⟨by decide +kernel, by decide +kernel⟩, by decide +kernel⟩
set_option maxHeartbeats 4000000 in
set_option maxRecDepth 100000 in
theorem c_X5_slip (l : Launch) (g : kG) (o : Nat) (q : Nat) (f : Nat → Int32) (n : Nat) (v : Int32) (cn : Nat) (hc : f 61 = nI cn) (hcn : cn ≤ 10) (hX : ∀ j, j < cn → s_ad f (s_pt f j) ≤ 20) (hE : ∀ j, j < cn → f (62 + 44 * j) = nI (s_en f j) ∧ s_en f j ≤ 1) : PI l yX5_slip cX5_slip 4 (some .int) (rr 7 165) [.ref o, .int (v)] ((RP g o q f n)) g (if s_okC f v then s_sl f (v).toNatClampNeg 5 else cINV) := by
  refine kOf (by decide) (Nat.le_of_ble_eq_true rfl) (fun p e s m below meth c ls hC hr hlk hin hK hP hl => ?_)
  have hx := hC.1
  have hb := hC.2.1
  have hml := hC.2.2.1
  have hown := hC.2.2.2.1
  have hts := hC.2.2.2.2
  have hl : lv_has ls 4 [(0, .ref o), (1, .int (v))] := hl
  refine lv_aload_n hx hb dX5_slip_0 rfl (lvG hl rfl) ?_
  refine lv_iload_n hx hb dX5_slip_1 rfl (lvG hl rfl) ?_
  refine k_callPI (k_goV (rest := []) hC hK (c_X5_isCard l g o q f n v) L_X5_X5_isCard (⟨⟨Nat.le_of_ble_eq_true rfl, Nat.le_of_ble_eq_true rfl⟩, ⟨rfl, rfl⟩, ⟨Nat.le_of_ble_eq_true rfl, Nat.le_of_ble_eq_true rfl⟩⟩) (hP.recv hK) (hP) rfl hl.1 rfl (Nat.le_of_ble_eq_true rfl) dX5_slip_2) ?_
  refine b_ifne (tgt := 11) hC dX5_slip_5 (by decide) (fun zc5 => ?_) (fun zc5 => ?_)
  · obtain ⟨j, h_j, ev_j⟩ := in_card (v := v) hcn hc (zc5)
    have e_j : (v).toNatClampNeg = j := by rw [ev_j]; exact nI_clamp (by omega)
    have hl : lv_has ls 4 [(0, .ref o), (1, .int (nI j))] := lv_eq hl (by rw [ev_j])
    refine lv_iconst (v := nI 0) hx hb dX5_slip_11 (by decide) ?_
    refine lv_istore_n (lv' := [(2, .int (nI 0)), (0, .ref o), (1, .int (nI j))]) hx hb dX5_slip_12 rfl hl (by decide) rfl (fun ls hl => ?_)
    refine lv_iconst (v := nI 1) hx hb dX5_slip_13 (by decide) ?_
    refine lv_istore_n (lv' := [(3, .int (nI 1)), (2, .int (nI 0)), (0, .ref o), (1, .int (nI j))]) hx hb dX5_slip_14 rfl hl (by decide) rfl (fun ls hl => ?_)
    have key_1 : ∀ (k_2 : Nat) (i : Nat) (bs : Int32)  (hi : i ≤ 5) (hs : bs = s_sl f j i) (hk_k_2 : 5 - i < k_2) (ls : Array Slot) (hl : lv_has ls 4 [(3, .int (nI (i + 1))), (2, .int (bs)), (0, .ref o), (1, .int (nI j))]), W p l e (rr 7 165) s m [.ref o, .int (v)].toArray below meth c s.heap [] 0 0 (MQ below (vp_Si (fun r => r = if s_okC f v then s_sl f (v).toNatClampNeg 5 else cINV)) [.ref o, .int (v)].toArray s 0 0 (fun _ => False)) (F0 m 15 ls ([])) := by
      intro k_2
      induction k_2 with
      | zero => intro i bs hi hs hk_k_2 ls hl; exact absurd hk_k_2 (Nat.not_lt_zero _)
      | succ k_2 ih_3 =>
        intro i bs hi hs hk_k_2 ls hl
        refine lv_iload_n hx hb dX5_slip_15 rfl (lvG hl rfl) ?_
        refine lv_bipush (v := nI 6) hx hb dX5_slip_16 (by decide) ?_
        refine n_icmp_ge (tgt := 71) hC dX5_slip_18 (by omega) (by omega) (by decide) (fun zc18 => ?_) (fun zc18 => ?_)
        · refine lv_iload_n hx hb dX5_slip_71 rfl (lvG hl rfl) ?_
          exact k_iret hC hr hlk dX5_slip_72 (by rw [if_pos zc5, e_j, hs, show i = 5 by omega])
        · refine lv_aload_n hx hb dX5_slip_21 rfl (lvG hl rfl) ?_
          refine lv_iload_n hx hb dX5_slip_22 rfl (lvG hl rfl) ?_
          refine lv_iload_n hx hb dX5_slip_23 rfl (lvG hl rfl) ?_
          refine lv_ineg hx hb dX5_slip_24 ?_
          refine k_callPI (k_goV (rest := []) hC hK (c_X5_offBy l g o q f n j (-(nI (i + 1))) cn hc hcn (by first | assumption | omega) hX hE) L_X5_X5_offBy (⟨⟨Nat.le_of_ble_eq_true rfl, Nat.le_of_ble_eq_true rfl⟩, ⟨rfl, rfl⟩, ⟨Nat.le_of_ble_eq_true rfl, Nat.le_of_ble_eq_true rfl⟩⟩) (hP.recv hK) (hP) rfl hl.1 rfl (Nat.le_of_ble_eq_true rfl) dX5_slip_25) ?_
          refine lv_aload_n hx hb dX5_slip_28 rfl (lvG hl rfl) ?_
          refine lv_iload_n hx hb dX5_slip_29 rfl (lvG hl rfl) ?_
          refine lv_iload_n hx hb dX5_slip_30 rfl (lvG hl rfl) ?_
          refine k_callPI (k_goV (rest := [.int (s_of f j (-(nI (i + 1))))]) hC hK (c_X5_offBy l g o q f n j bs cn hc hcn (by first | assumption | omega) hX hE) L_X5_X5_offBy (⟨⟨Nat.le_of_ble_eq_true rfl, Nat.le_of_ble_eq_true rfl⟩, ⟨rfl, rfl⟩, ⟨Nat.le_of_ble_eq_true rfl, Nat.le_of_ble_eq_true rfl⟩⟩) (hP.recv hK) (hP) rfl hl.1 rfl (Nat.le_of_ble_eq_true rfl) dX5_slip_31) ?_
          refine lv_icmp_ge (tgt := 42) hx hb dX5_slip_34 (by decide) (fun zc34 => ?_) (fun zc34 => ?_)
          · refine lv_iload_n hx hb dX5_slip_42 rfl (lvG hl rfl) ?_
            refine lv_istore_n (lv' := [(2, .int (bs)), (3, .int (nI (i + 1))), (0, .ref o), (1, .int (nI j))]) hx hb dX5_slip_43 rfl hl (by decide) rfl (fun ls hl => ?_)
            refine lv_aload_n hx hb dX5_slip_44 rfl (lvG hl rfl) ?_
            refine lv_iload_n hx hb dX5_slip_45 rfl (lvG hl rfl) ?_
            refine lv_iload_n hx hb dX5_slip_46 rfl (lvG hl rfl) ?_
            refine k_callPI (k_goV (rest := []) hC hK (c_X5_offBy l g o q f n j (nI (i + 1)) cn hc hcn (by first | assumption | omega) hX hE) L_X5_X5_offBy (⟨⟨Nat.le_of_ble_eq_true rfl, Nat.le_of_ble_eq_true rfl⟩, ⟨rfl, rfl⟩, ⟨Nat.le_of_ble_eq_true rfl, Nat.le_of_ble_eq_true rfl⟩⟩) (hP.recv hK) (hP) rfl hl.1 rfl (Nat.le_of_ble_eq_true rfl) dX5_slip_47) ?_
            refine lv_aload_n hx hb dX5_slip_50 rfl (lvG hl rfl) ?_
            refine lv_iload_n hx hb dX5_slip_51 rfl (lvG hl rfl) ?_
            refine lv_iload_n hx hb dX5_slip_52 rfl (lvG hl rfl) ?_
            refine k_callPI (k_goV (rest := [.int (s_of f j (nI (i + 1)))]) hC hK (c_X5_offBy l g o q f n j bs cn hc hcn (by first | assumption | omega) hX hE) L_X5_X5_offBy (⟨⟨Nat.le_of_ble_eq_true rfl, Nat.le_of_ble_eq_true rfl⟩, ⟨rfl, rfl⟩, ⟨Nat.le_of_ble_eq_true rfl, Nat.le_of_ble_eq_true rfl⟩⟩) (hP.recv hK) (hP) rfl hl.1 rfl (Nat.le_of_ble_eq_true rfl) dX5_slip_53) ?_
            refine lv_icmp_ge (tgt := 63) hx hb dX5_slip_56 (by decide) (fun zc56 => ?_) (fun zc56 => ?_)
            · refine lv_iload_n hx hb dX5_slip_63 rfl (lvG hl rfl) ?_
              refine lv_istore_n (lv' := [(2, .int (bs)), (3, .int (nI (i + 1))), (0, .ref o), (1, .int (nI j))]) hx hb dX5_slip_64 rfl hl (by decide) rfl (fun ls hl => ?_)
              refine n_iinc (lv' := [(3, .int (nI (i + 1 + 1))), (2, .int (bs)), (0, .ref o), (1, .int (nI j))]) hC dX5_slip_65 hl rfl (by decide) rfl (fun ls hl => ?_)
              refine lv_goto (tgt := 15) hx hb dX5_slip_68 (by decide) ?_
              exact ih_3 (i + 1) bs  (by first | omega | assumption | rfl) (by unfold s_sl s_s1 s_s2; rw [← hs]; first | (rw [if_pos zc34, if_pos zc56]; done) | (rw [if_pos zc34, if_neg zc56]; done) | (rw [if_neg zc34, if_pos zc56]; done) | (rw [if_neg zc34, if_neg zc56]; done) | grind) (by omega) ls (lv_sub hl [0, 1, 2, 3] rfl)
            · refine lv_iload_n hx hb dX5_slip_59 rfl (lvG hl rfl) ?_
              refine lv_goto (tgt := 64) hx hb dX5_slip_60 (by decide) ?_
              refine lv_istore_n (lv' := [(2, .int (nI (i + 1))), (3, .int (nI (i + 1))), (0, .ref o), (1, .int (nI j))]) hx hb dX5_slip_64 rfl hl (by decide) rfl (fun ls hl => ?_)
              refine n_iinc (lv' := [(3, .int (nI (i + 1 + 1))), (2, .int (nI (i + 1))), (0, .ref o), (1, .int (nI j))]) hC dX5_slip_65 hl rfl (by decide) rfl (fun ls hl => ?_)
              refine lv_goto (tgt := 15) hx hb dX5_slip_68 (by decide) ?_
              exact ih_3 (i + 1) (nI (i + 1))  (by first | omega | assumption | rfl) (by unfold s_sl s_s1 s_s2; rw [← hs]; first | (rw [if_pos zc34, if_pos zc56]; done) | (rw [if_pos zc34, if_neg zc56]; done) | (rw [if_neg zc34, if_pos zc56]; done) | (rw [if_neg zc34, if_neg zc56]; done) | grind) (by omega) ls (lv_sub hl [0, 1, 2, 3] rfl)
          · refine lv_iload_n hx hb dX5_slip_37 rfl (lvG hl rfl) ?_
            refine lv_ineg hx hb dX5_slip_38 ?_
            refine lv_goto (tgt := 43) hx hb dX5_slip_39 (by decide) ?_
            refine lv_istore_n (lv' := [(2, .int (-(nI (i + 1)))), (3, .int (nI (i + 1))), (0, .ref o), (1, .int (nI j))]) hx hb dX5_slip_43 rfl hl (by decide) rfl (fun ls hl => ?_)
            refine lv_aload_n hx hb dX5_slip_44 rfl (lvG hl rfl) ?_
            refine lv_iload_n hx hb dX5_slip_45 rfl (lvG hl rfl) ?_
            refine lv_iload_n hx hb dX5_slip_46 rfl (lvG hl rfl) ?_
            refine k_callPI (k_goV (rest := []) hC hK (c_X5_offBy l g o q f n j (nI (i + 1)) cn hc hcn (by first | assumption | omega) hX hE) L_X5_X5_offBy (⟨⟨Nat.le_of_ble_eq_true rfl, Nat.le_of_ble_eq_true rfl⟩, ⟨rfl, rfl⟩, ⟨Nat.le_of_ble_eq_true rfl, Nat.le_of_ble_eq_true rfl⟩⟩) (hP.recv hK) (hP) rfl hl.1 rfl (Nat.le_of_ble_eq_true rfl) dX5_slip_47) ?_
            refine lv_aload_n hx hb dX5_slip_50 rfl (lvG hl rfl) ?_
            refine lv_iload_n hx hb dX5_slip_51 rfl (lvG hl rfl) ?_
            refine lv_iload_n hx hb dX5_slip_52 rfl (lvG hl rfl) ?_
            refine k_callPI (k_goV (rest := [.int (s_of f j (nI (i + 1)))]) hC hK (c_X5_offBy l g o q f n j (-(nI (i + 1))) cn hc hcn (by first | assumption | omega) hX hE) L_X5_X5_offBy (⟨⟨Nat.le_of_ble_eq_true rfl, Nat.le_of_ble_eq_true rfl⟩, ⟨rfl, rfl⟩, ⟨Nat.le_of_ble_eq_true rfl, Nat.le_of_ble_eq_true rfl⟩⟩) (hP.recv hK) (hP) rfl hl.1 rfl (Nat.le_of_ble_eq_true rfl) dX5_slip_53) ?_
            refine lv_icmp_ge (tgt := 63) hx hb dX5_slip_56 (by decide) (fun zc56 => ?_) (fun zc56 => ?_)
            · refine lv_iload_n hx hb dX5_slip_63 rfl (lvG hl rfl) ?_
              refine lv_istore_n (lv' := [(2, .int (-(nI (i + 1)))), (3, .int (nI (i + 1))), (0, .ref o), (1, .int (nI j))]) hx hb dX5_slip_64 rfl hl (by decide) rfl (fun ls hl => ?_)
              refine n_iinc (lv' := [(3, .int (nI (i + 1 + 1))), (2, .int (-(nI (i + 1)))), (0, .ref o), (1, .int (nI j))]) hC dX5_slip_65 hl rfl (by decide) rfl (fun ls hl => ?_)
              refine lv_goto (tgt := 15) hx hb dX5_slip_68 (by decide) ?_
              exact ih_3 (i + 1) (-(nI (i + 1)))  (by first | omega | assumption | rfl) (by unfold s_sl s_s1 s_s2; rw [← hs]; first | (rw [if_pos zc34, if_pos zc56]; done) | (rw [if_pos zc34, if_neg zc56]; done) | (rw [if_neg zc34, if_pos zc56]; done) | (rw [if_neg zc34, if_neg zc56]; done) | grind) (by omega) ls (lv_sub hl [0, 1, 2, 3] rfl)
            · refine lv_iload_n hx hb dX5_slip_59 rfl (lvG hl rfl) ?_
              refine lv_goto (tgt := 64) hx hb dX5_slip_60 (by decide) ?_
              refine lv_istore_n (lv' := [(2, .int (nI (i + 1))), (3, .int (nI (i + 1))), (0, .ref o), (1, .int (nI j))]) hx hb dX5_slip_64 rfl hl (by decide) rfl (fun ls hl => ?_)
              refine n_iinc (lv' := [(3, .int (nI (i + 1 + 1))), (2, .int (nI (i + 1))), (0, .ref o), (1, .int (nI j))]) hC dX5_slip_65 hl rfl (by decide) rfl (fun ls hl => ?_)
              refine lv_goto (tgt := 15) hx hb dX5_slip_68 (by decide) ?_
              exact ih_3 (i + 1) (nI (i + 1))  (by first | omega | assumption | rfl) (by unfold s_sl s_s1 s_s2; rw [← hs]; first | (rw [if_pos zc34, if_pos zc56]; done) | (rw [if_pos zc34, if_neg zc56]; done) | (rw [if_neg zc34, if_pos zc56]; done) | (rw [if_neg zc34, if_neg zc56]; done) | grind) (by omega) ls (lv_sub hl [0, 1, 2, 3] rfl)
    exact key_1 ((5 - 0) + 1) 0 (nI 0)  (by first | rfl | omega | assumption) (by first | rfl | omega | assumption) (Nat.lt_succ_self _) ls (lv_sub hl [0, 1, 2, 3] rfl)
  · refine lv_ldc (v := (-2000000001 : Int32)) hx hb hown (hts _ w_669) dX5_slip_8 ?_
    exact k_iret hC hr hlk dX5_slip_10 (by rw [if_neg zc5])
set_option maxHeartbeats 4000000 in
set_option maxRecDepth 100000 in
theorem c_X5_constant (l : Launch) (g : kG) (o : Nat) (q : Nat) (f : Nat → Int32) (n : Nat) (v : Int32) (st : Int32) (cn : Nat) (hc : f 61 = nI cn) (hcn : cn ≤ 10) : PI l yX5_constant cX5_constant 3 (some .int) (rr 2 43) [.ref o, .int (v), .int (st)] ((RP g o q f n)) g (if s_okC f v ∧ (nI 0 ≤ st ∧ st ≤ nI 20) then s_kc f (s_pt f (v).toNatClampNeg) (st).toNatClampNeg else cINV) := by
  refine kOf (by decide) (Nat.le_of_ble_eq_true rfl) (fun p e s m below meth c ls hC hr hlk hin hK hP hl => ?_)
  have hx := hC.1
  have hb := hC.2.1
  have hml := hC.2.2.1
  have hown := hC.2.2.2.1
  have hts := hC.2.2.2.2
  have hl : lv_has ls 3 [(0, .ref o), (1, .int (v)), (2, .int (st))] := hl
  refine lv_aload_n hx hb dX5_constant_0 rfl (lvG hl rfl) ?_
  refine lv_iload_n hx hb dX5_constant_1 rfl (lvG hl rfl) ?_
  refine k_callPI (k_goV (rest := []) hC hK (c_X5_isCard l g o q f n v) L_X5_X5_isCard (⟨⟨Nat.le_of_ble_eq_true rfl, Nat.le_of_ble_eq_true rfl⟩, ⟨rfl, rfl⟩, ⟨Nat.le_of_ble_eq_true rfl, Nat.le_of_ble_eq_true rfl⟩⟩) (hP.recv hK) (hP) rfl hl.1 rfl (Nat.le_of_ble_eq_true rfl) dX5_constant_2) ?_
  refine b_ifeq (tgt := 30) hC dX5_constant_5 (by decide) (fun zc5 => ?_) (fun zc5 => ?_)
  · refine lv_ldc (v := (-2000000001 : Int32)) hx hb hown (hts _ w_669) dX5_constant_30 ?_
    exact k_iret hC hr hlk dX5_constant_32 (by first | (rw [if_pos ⟨zc5, zc15⟩, e_j, e_k]; done) | (rw [if_neg (by grind)]; done))
  · refine lv_iload_n hx hb dX5_constant_8 rfl (lvG hl rfl) ?_
    refine lv_iconst (v := nI 0) hx hb dX5_constant_9 (by decide) ?_
    refine lv_bipush (v := nI 20) hx hb dX5_constant_10 (by decide) ?_
    refine k_callPI (k_goS (rest := []) hC hK (c_X5_in l g st (nI 0) (nI 20)) L_X5_X5_in (⟨⟨Nat.le_of_ble_eq_true rfl, Nat.le_of_ble_eq_true rfl⟩, ⟨rfl, rfl⟩, ⟨Nat.le_of_ble_eq_true rfl, Nat.le_of_ble_eq_true rfl⟩⟩) (trivial) rfl hl.1 rfl (Nat.le_of_ble_eq_true rfl) dX5_constant_12) ?_
    refine b_ifeq (tgt := 30) hC dX5_constant_15 (by decide) (fun zc15 => ?_) (fun zc15 => ?_)
    · refine lv_ldc (v := (-2000000001 : Int32)) hx hb hown (hts _ w_669) dX5_constant_30 ?_
      exact k_iret hC hr hlk dX5_constant_32 (by first | (rw [if_pos ⟨zc5, zc15⟩, e_j, e_k]; done) | (rw [if_neg (by grind)]; done))
    · obtain ⟨j, h_j, ev_j⟩ := in_card (v := v) hcn hc (zc5)
      have e_j : (v).toNatClampNeg = j := by rw [ev_j]; exact nI_clamp (by omega)
      have hl : lv_has ls 3 [(0, .ref o), (1, .int (nI j)), (2, .int (st))] := lv_eq hl (by rw [ev_j])
      obtain ⟨k, h_k, ev_k⟩ := in_nat (by decide) (zc15)
      have e_k : (st).toNatClampNeg = k := by rw [ev_k]; exact nI_clamp (by omega)
      have hl : lv_has ls 3 [(0, .ref o), (1, .int (nI j)), (2, .int (nI k))] := lv_eq hl (by rw [ev_k])
      refine lv_aload_n hx hb dX5_constant_18 rfl (lvG hl rfl) ?_
      refine lv_iload_n hx hb dX5_constant_19 rfl (lvG hl rfl) ?_
      refine k_callPI (k_goS (rest := [.ref o]) hC hK (c_X5_at l g j) L_X5_X5_at (⟨⟨Nat.le_of_ble_eq_true rfl, Nat.le_of_ble_eq_true rfl⟩, ⟨rfl, rfl⟩, ⟨Nat.le_of_ble_eq_true rfl, Nat.le_of_ble_eq_true rfl⟩⟩) (trivial) rfl hl.1 rfl (Nat.le_of_ble_eq_true rfl) dX5_constant_20) ?_
      refine lv_iload_n hx hb dX5_constant_23 rfl (lvG hl rfl) ?_
      refine k_callPI (k_goV (rest := []) hC hK (c_X5_constantAt l g o q f n (62 + 44 * j + 2) k (by first | assumption | omega)) L_X5_X5_constantAt (⟨⟨Nat.le_of_ble_eq_true rfl, Nat.le_of_ble_eq_true rfl⟩, ⟨rfl, rfl⟩, ⟨Nat.le_of_ble_eq_true rfl, Nat.le_of_ble_eq_true rfl⟩⟩) (hP.recv hK) (hP) rfl hl.1 rfl (Nat.le_of_ble_eq_true rfl) dX5_constant_24) ?_
      refine lv_goto (tgt := 32) hx hb dX5_constant_27 (by decide) ?_
      exact k_iret hC hr hlk dX5_constant_32 (by first | (rw [if_pos ⟨zc5, zc15⟩, e_j, e_k]; done) | (rw [if_neg (by grind)]; done))
def s_lk (f p : Nat → Int32) : Int32 := if s_re f p - 1 ≤ s_cu f p ∨ s_kc f p (s_cu f p) = nI 0 then cNON else (s_quo ((s_kc f p (s_re f p - 1) - s_kc f p (s_cu f p)).toInt64 * (1000 : Int64)) (s_kc f p (s_cu f p)).toInt64).toInt32
theorem l_ne {x : Int32} (h : ¬ x = nI 0) : ¬ x.toInt64 = 0 := fun q => h ((fa_wide_eq x (nI 0)).mp q)
set_option maxHeartbeats 4000000 in
set_option maxRecDepth 100000 in
theorem c_X5_leakage (l : Launch) (g : kG) (o : Nat) (q : Nat) (f : Nat → Int32) (n : Nat) (v : Int32) (cn : Nat) (hc : f 61 = nI cn) (hcn : cn ≤ 10) (hX : ∀ j, j < cn → s_ad f (s_pt f j) ≤ 20) : PI l yX5_leakage cX5_leakage 5 (some .int) (rr 4 95) [.ref o, .int (v)] ((RP g o q f n)) g (if s_okC f v then s_lk f (s_pt f (v).toNatClampNeg) else cINV) := by
  refine kOf (by decide) (Nat.le_of_ble_eq_true rfl) (fun p e s m below meth c ls hC hr hlk hin hK hP hl => ?_)
  have hx := hC.1
  have hb := hC.2.1
  have hml := hC.2.2.1
  have hown := hC.2.2.2.1
  have hts := hC.2.2.2.2
  have hl : lv_has ls 5 [(0, .ref o), (1, .int (v))] := hl
  refine lv_aload_n hx hb dX5_leakage_0 rfl (lvG hl rfl) ?_
  refine lv_iload_n hx hb dX5_leakage_1 rfl (lvG hl rfl) ?_
  refine k_callPI (k_goV (rest := []) hC hK (c_X5_isCard l g o q f n v) L_X5_X5_isCard (⟨⟨Nat.le_of_ble_eq_true rfl, Nat.le_of_ble_eq_true rfl⟩, ⟨rfl, rfl⟩, ⟨Nat.le_of_ble_eq_true rfl, Nat.le_of_ble_eq_true rfl⟩⟩) (hP.recv hK) (hP) rfl hl.1 rfl (Nat.le_of_ble_eq_true rfl) dX5_leakage_2) ?_
  refine b_ifne (tgt := 11) hC dX5_leakage_5 (by decide) (fun zc5 => ?_) (fun zc5 => ?_)
  · obtain ⟨j, h_j, ev_j⟩ := in_card (v := v) hcn hc (zc5)
    have e_j : (v).toNatClampNeg = j := by rw [ev_j]; exact nI_clamp (by omega)
    have hl : lv_has ls 5 [(0, .ref o), (1, .int (nI j))] := lv_eq hl (by rw [ev_j])
    have hre := s_re_in f (fun k => f ((62 + 44 * j + 2) + k))
    have hcu : s_cu f (fun k => f ((62 + 44 * j + 2) + k)) ≤ 20 := (s_co_in (fun k => f ((62 + 44 * j + 2) + k)) (s_bd f (fun k => f ((62 + 44 * j + 2) + k))) 20 (s_ad f (fun k => f ((62 + 44 * j + 2) + k)))).2 (hX j h_j)
    refine lv_aload_n hx hb dX5_leakage_11 rfl (lvG hl rfl) ?_
    refine lv_iload_n hx hb dX5_leakage_12 rfl (lvG hl rfl) ?_
    refine k_callPI (k_goS (rest := [.ref o]) hC hK (c_X5_at l g j) L_X5_X5_at (⟨⟨Nat.le_of_ble_eq_true rfl, Nat.le_of_ble_eq_true rfl⟩, ⟨rfl, rfl⟩, ⟨Nat.le_of_ble_eq_true rfl, Nat.le_of_ble_eq_true rfl⟩⟩) (trivial) rfl hl.1 rfl (Nat.le_of_ble_eq_true rfl) dX5_leakage_13) ?_
    refine k_callPI (k_goV (rest := []) hC hK (c_X5_cutOff l g o q f n (62 + 44 * j + 2) (by first | assumption | omega) (hX j h_j)) L_X5_X5_cutOff (⟨⟨Nat.le_of_ble_eq_true rfl, Nat.le_of_ble_eq_true rfl⟩, ⟨rfl, rfl⟩, ⟨Nat.le_of_ble_eq_true rfl, Nat.le_of_ble_eq_true rfl⟩⟩) (hP.recv hK) (hP) rfl hl.1 rfl (Nat.le_of_ble_eq_true rfl) dX5_leakage_16) ?_
    refine lv_istore_n (lv' := [(2, .int (nI (s_cu f (fun k => f ((62 + 44 * j + 2) + k))))), (0, .ref o), (1, .int (nI j))]) hx hb dX5_leakage_19 rfl hl (by decide) rfl (fun ls hl => ?_)
    refine lv_aload_n hx hb dX5_leakage_20 rfl (lvG hl rfl) ?_
    refine lv_iload_n hx hb dX5_leakage_21 rfl (lvG hl rfl) ?_
    refine k_callPI (k_goS (rest := [.ref o]) hC hK (c_X5_at l g j) L_X5_X5_at (⟨⟨Nat.le_of_ble_eq_true rfl, Nat.le_of_ble_eq_true rfl⟩, ⟨rfl, rfl⟩, ⟨Nat.le_of_ble_eq_true rfl, Nat.le_of_ble_eq_true rfl⟩⟩) (trivial) rfl hl.1 rfl (Nat.le_of_ble_eq_true rfl) dX5_leakage_22) ?_
    refine k_callPI (k_goV (rest := []) hC hK (c_X5_release l g o q f n (62 + 44 * j + 2) (by first | assumption | omega) (hX j h_j)) L_X5_X5_release (⟨⟨Nat.le_of_ble_eq_true rfl, Nat.le_of_ble_eq_true rfl⟩, ⟨rfl, rfl⟩, ⟨Nat.le_of_ble_eq_true rfl, Nat.le_of_ble_eq_true rfl⟩⟩) (hP.recv hK) (hP) rfl hl.1 rfl (Nat.le_of_ble_eq_true rfl) dX5_leakage_25) ?_
    refine lv_iconst (v := nI 1) hx hb dX5_leakage_28 (by decide) ?_
    refine n_isub hC dX5_leakage_29 (hre.1) ?_
    refine lv_istore_n (lv' := [(3, .int (nI ((s_re f (fun k => f ((62 + 44 * j + 2) + k))) - 1))), (2, .int (nI (s_cu f (fun k => f ((62 + 44 * j + 2) + k))))), (0, .ref o), (1, .int (nI j))]) hx hb dX5_leakage_30 rfl hl (by decide) rfl (fun ls hl => ?_)
    refine lv_aload_n hx hb dX5_leakage_31 rfl (lvG hl rfl) ?_
    refine lv_iload_n hx hb dX5_leakage_32 rfl (lvG hl rfl) ?_
    refine k_callPI (k_goS (rest := [.ref o]) hC hK (c_X5_at l g j) L_X5_X5_at (⟨⟨Nat.le_of_ble_eq_true rfl, Nat.le_of_ble_eq_true rfl⟩, ⟨rfl, rfl⟩, ⟨Nat.le_of_ble_eq_true rfl, Nat.le_of_ble_eq_true rfl⟩⟩) (trivial) rfl hl.1 rfl (Nat.le_of_ble_eq_true rfl) dX5_leakage_33) ?_
    refine lv_iload_n hx hb dX5_leakage_36 rfl (lvG hl rfl) ?_
    refine k_callPI (k_goV (rest := []) hC hK (c_X5_constantAt l g o q f n (62 + 44 * j + 2) (s_cu f (fun k => f ((62 + 44 * j + 2) + k))) (by omega)) L_X5_X5_constantAt (⟨⟨Nat.le_of_ble_eq_true rfl, Nat.le_of_ble_eq_true rfl⟩, ⟨rfl, rfl⟩, ⟨Nat.le_of_ble_eq_true rfl, Nat.le_of_ble_eq_true rfl⟩⟩) (hP.recv hK) (hP) rfl hl.1 rfl (Nat.le_of_ble_eq_true rfl) dX5_leakage_37) ?_
    refine lv_istore (lv' := [(4, .int (s_kc f (fun k => f ((62 + 44 * j + 2) + k)) (s_cu f (fun k => f ((62 + 44 * j + 2) + k))))), (3, .int (nI ((s_re f (fun k => f ((62 + 44 * j + 2) + k))) - 1))), (2, .int (nI (s_cu f (fun k => f ((62 + 44 * j + 2) + k))))), (0, .ref o), (1, .int (nI j))]) hx hb dX5_leakage_40 hl (by decide) rfl (fun ls hl => ?_)
    refine lv_iload_n hx hb dX5_leakage_42 rfl (lvG hl rfl) ?_
    refine lv_iload_n hx hb dX5_leakage_43 rfl (lvG hl rfl) ?_
    refine n_icmp_le (tgt := 52) hC dX5_leakage_44 (by omega) (by omega) (by decide) (fun zc44 => ?_) (fun zc44 => ?_)
    · refine lv_ldc (v := (-2000000004 : Int32)) hx hb hown (hts _ w_893) dX5_leakage_52 ?_
      refine lv_goto (tgt := 81) hx hb dX5_leakage_54 (by decide) ?_
      exact k_iret hC hr hlk dX5_leakage_81 (by rw [if_pos zc5, e_j]; unfold s_lk; first | (rw [if_pos (Or.inl zc44)]; done) | (rw [if_pos (Or.inr zc49)]; done) | (rw [if_neg (fun q => q.elim zc44 zc49)]; done))
    · refine lv_iload hx hb dX5_leakage_47 (lvG hl rfl) ?_
      refine z_if_ne (tgt := 57) hC dX5_leakage_49 (by decide) (fun zc49 => ?_) (fun zc49 => ?_)
      · refine lv_aload_n hx hb dX5_leakage_57 rfl (lvG hl rfl) ?_
        refine lv_iload_n hx hb dX5_leakage_58 rfl (lvG hl rfl) ?_
        refine k_callPI (k_goS (rest := [.ref o]) hC hK (c_X5_at l g j) L_X5_X5_at (⟨⟨Nat.le_of_ble_eq_true rfl, Nat.le_of_ble_eq_true rfl⟩, ⟨rfl, rfl⟩, ⟨Nat.le_of_ble_eq_true rfl, Nat.le_of_ble_eq_true rfl⟩⟩) (trivial) rfl hl.1 rfl (Nat.le_of_ble_eq_true rfl) dX5_leakage_59) ?_
        refine lv_iload_n hx hb dX5_leakage_62 rfl (lvG hl rfl) ?_
        refine k_callPI (k_goV (rest := []) hC hK (c_X5_constantAt l g o q f n (62 + 44 * j + 2) ((s_re f (fun k => f ((62 + 44 * j + 2) + k))) - 1) (by omega)) L_X5_X5_constantAt (⟨⟨Nat.le_of_ble_eq_true rfl, Nat.le_of_ble_eq_true rfl⟩, ⟨rfl, rfl⟩, ⟨Nat.le_of_ble_eq_true rfl, Nat.le_of_ble_eq_true rfl⟩⟩) (hP.recv hK) (hP) rfl hl.1 rfl (Nat.le_of_ble_eq_true rfl) dX5_leakage_63) ?_
        refine lv_iload hx hb dX5_leakage_66 (lvG hl rfl) ?_
        refine lv_isub hx hb dX5_leakage_68 ?_
        refine lv_i2l (v := ((s_kc f (fun k => f ((62 + 44 * j + 2) + k)) ((s_re f (fun k => f ((62 + 44 * j + 2) + k))) - 1)) - (s_kc f (fun k => f ((62 + 44 * j + 2) + k)) (s_cu f (fun k => f ((62 + 44 * j + 2) + k))))).toInt64) hx hb dX5_leakage_69 rfl ?_
        refine lv_ldc2 (v := (1000 : Int64)) hx hb hown (hts _ w_755) dX5_leakage_70 ?_
        refine lv_lmul hx hb dX5_leakage_73 ?_
        refine lv_iload hx hb dX5_leakage_74 (lvG hl rfl) ?_
        refine lv_i2l (v := (s_kc f (fun k => f ((62 + 44 * j + 2) + k)) (s_cu f (fun k => f ((62 + 44 * j + 2) + k)))).toInt64) hx hb dX5_leakage_76 rfl ?_
        refine k_callPL (k_goS (rest := []) hC hK (c_X5_quotient l g ((((s_kc f (fun k => f ((62 + 44 * j + 2) + k)) ((s_re f (fun k => f ((62 + 44 * j + 2) + k))) - 1)) - (s_kc f (fun k => f ((62 + 44 * j + 2) + k)) (s_cu f (fun k => f ((62 + 44 * j + 2) + k))))).toInt64) * ((1000 : Int64))) ((s_kc f (fun k => f ((62 + 44 * j + 2) + k)) (s_cu f (fun k => f ((62 + 44 * j + 2) + k)))).toInt64) (l_ne zc49)) L_X5_X5_quotient (⟨⟨Nat.le_of_ble_eq_true rfl, Nat.le_of_ble_eq_true rfl⟩, ⟨rfl, rfl⟩, ⟨Nat.le_of_ble_eq_true rfl, Nat.le_of_ble_eq_true rfl⟩⟩) (trivial) rfl hl.1 rfl (Nat.le_of_ble_eq_true rfl) dX5_leakage_77) ?_
        refine lv_l2i (v := (s_quo ((((s_kc f (fun k => f ((62 + 44 * j + 2) + k)) ((s_re f (fun k => f ((62 + 44 * j + 2) + k))) - 1)) - (s_kc f (fun k => f ((62 + 44 * j + 2) + k)) (s_cu f (fun k => f ((62 + 44 * j + 2) + k))))).toInt64) * ((1000 : Int64))) ((s_kc f (fun k => f ((62 + 44 * j + 2) + k)) (s_cu f (fun k => f ((62 + 44 * j + 2) + k)))).toInt64)).toInt32) hx hb dX5_leakage_80 rfl ?_
        exact k_iret hC hr hlk dX5_leakage_81 (by rw [if_pos zc5, e_j]; unfold s_lk; first | (rw [if_pos (Or.inl zc44)]; done) | (rw [if_pos (Or.inr zc49)]; done) | (rw [if_neg (fun q => q.elim zc44 zc49)]; done))
      · refine lv_ldc (v := (-2000000004 : Int32)) hx hb hown (hts _ w_893) dX5_leakage_52 ?_
        refine lv_goto (tgt := 81) hx hb dX5_leakage_54 (by decide) ?_
        exact k_iret hC hr hlk dX5_leakage_81 (by rw [if_pos zc5, e_j]; unfold s_lk; first | (rw [if_pos (Or.inl zc44)]; done) | (rw [if_pos (Or.inr zc49)]; done) | (rw [if_neg (fun q => q.elim zc44 zc49)]; done))
  · refine lv_ldc (v := (-2000000001 : Int32)) hx hb hown (hts _ w_669) dX5_leakage_8 ?_
    exact k_iret hC hr hlk dX5_leakage_10 (by rw [if_neg zc5])
