def k_xd (b : Nat) : Nat → Nat := fun k => if k = 0 then b else if k = 1 then b + 14 else if k = 2 then b + 1 else if k = 3 then b + 2 else if k = 4 then b + 3 else if k = 5 then b + 4 else if k = 6 then b + 5 else b + 6
def k_M (b : Nat) : Nat → Prop := fun q => (b ≤ q ∧ q < b + 43) ∧ ¬ SC (k_xd b) q
theorem va_Dn {A : Nat → Prop} {ws : va_W} (b : Nat) (os : List Nat) (h : ws.map Prod.fst = os.map (fun o => b + o)) (hn : os.Nodup) (hA : ∀ o ∈ os, A (b + o)) : va_D A ws := by
  have key : ∀ (i : Nat) (p : Nat × va_E), ws[i]? = some p → ∃ o, os[i]? = some o ∧ p.1 = b + o := by
    intro i p hp
    have h1 : (ws.map Prod.fst)[i]? = some p.1 := by rw [List.getElem?_map, hp]; rfl
    rw [h, List.getElem?_map] at h1
    cases ho : os[i]? with
    | none => rw [ho] at h1; cases h1
    | some o => rw [ho] at h1; exact ⟨o, rfl, (Option.some.inj h1).symm⟩
  refine ⟨fun i j p q hi hj hpq => ?_, fun k q hq => ?_⟩
  · obtain ⟨o1, a1, a2⟩ := key i p hi
    obtain ⟨o2, b1, b2⟩ := key j q hj
    have e : o1 = o2 := by omega
    subst e
    have l1 := (List.getElem?_eq_some_iff.mp a1).1
    exact (List.getElem?_inj l1 hn).mp (a1.trans b1.symm)
  · obtain ⟨o, a1, a2⟩ := key k q hq
    rw [a2]
    exact hA o (List.mem_of_getElem? a1)
theorem SC_iff {b q : Nat} : SC (k_xd b) q ↔ (b + 2 ≤ q ∧ q < b + 7) := by
  show (q = b + 2 ∨ q = b + 3 ∨ q = b + 4 ∨ q = b + 5 ∨ q = b + 6) ↔ _
  omega
def k_ev0 : Nat → Int32 := fun k => if k = 0 then nI 0 else if k = 1 then nI 8 else if k = 2 then nI 18 else nI 4
abbrev wI (g : kG) (b : Nat) : va_W := wN g (k_xd b) (k_ad (b + 7)) 0 s_ini (fun _ => nI 0) (fun _ => some (b + 1)) (h4 (b + 15) (b + 22) (b + 29) (b + 36)) ++ (cTr (k_xd b) :: (wS g (k_ad (b + 15)) s_ini (fun _ => nI 0) (fun _ => some (b + 1)) ++ (wS g (k_ad (b + 22)) s_ini (fun _ => nI 0) (fun _ => some (b + 1)) ++ (wS g (k_ad (b + 29)) s_ini (fun _ => nI 0) (fun _ => some (b + 1)) ++ wS g (k_ad (b + 36)) s_ini (fun _ => nI 0) (fun _ => some (b + 1))))))
theorem XW.init {g : kG} {b : Nat} {H : Heap} (hP : va_P g.1 kCl (wI g b) H) (hT : va_P g.1 kCl (wT g (k_xd b) (fun _ => nI 0) k_ev0 k_ev0 (fun _ => nI 0)) H) : XW g (k_xd b) (k_ad (b + 7)) (k_M b) s_ini 0 H := by
  have hDM : va_D (k_M b) (wI g b) := by
    refine va_Dn b [0, 14, 7, 13, 8, 9, 10, 11, 12, 1, 15, 21, 16, 17, 18, 19, 20, 22, 28, 23, 24, 25, 26, 27, 29, 35, 30, 31, 32, 33, 34, 36, 42, 37, 38, 39, 40, 41] rfl (by decide) (fun o ho => ?_)
    have hb : o < 43 ∧ (o < 2 ∨ 7 ≤ o) := (show ∀ o ∈ [0, 14, 7, 13, 8, 9, 10, 11, 12, 1, 15, 21, 16, 17, 18, 19, 20, 22, 28, 23, 24, 25, 26, 27, 29, 35, 30, 31, 32, 33, 34, 36, 42, 37, 38, 39, 40, 41], o < 43 ∧ (o < 2 ∨ 7 ≤ o) by decide) o ho
    exact ⟨by omega, fun c => by have := SC_iff.mp c; omega⟩
  have hDT : va_D (SC (k_xd b)) (wT g (k_xd b) (fun _ => nI 0) k_ev0 k_ev0 (fun _ => nI 0)) := by
    refine va_Dn b [2, 3, 4, 5, 6] rfl (by decide) (fun o ho => ?_)
    have hb : 2 ≤ o ∧ o < 7 := (show ∀ o ∈ [2, 3, 4, 5, 6], 2 ≤ o ∧ o < 7 by decide) o ho
    exact SC_iff.mpr (by omega)
  refine XW.mk (hs := h4 (b + 15) (b + 22) (b + 29) (b + 36)) (d := fun _ => nI 0) (r := fun _ => some (b + 1)) (by decide) (fun q h => h.2) ⟨_, _, _, _, hT, hDT⟩ hP hDM ?_ ?_
  · exact ⟨k_ad (b + 15), k_ad (b + 22), k_ad (b + 29), k_ad (b + 36), s_ini, s_ini, s_ini, s_ini, _, _, _, _, _, _, _, _, rfl, rfl, fun c => absurd c (by decide), fun c => absurd c (by decide), fun c => absurd c (by decide), fun c => absurd c (by decide)⟩
  · exact ⟨Or.inl (by decide), fun c => absurd c (by decide), fun i hi => ⟨b + 1, rfl, Or.inl rfl⟩, fun i hi => absurd hi (by rw [show (s_ini 61).toNatClampNeg = 0 by decide]; exact Nat.not_lt_zero i)⟩
theorem L_X4_X0_init : LnkI RX4 9 yX0_init cX0_init 1 0 := ⟨w_42, w_43, rfl, w_26, w_44, ⟨by decide +kernel, by decide +kernel⟩, by decide +kernel⟩
theorem L_X4_X2_init : LnkI RX4 18 yX2_init cX2_init 1 0 := ⟨w_64, w_65, rfl, w_27, w_66, ⟨by decide +kernel, by decide +kernel⟩, by decide +kernel⟩
theorem L_X4_X3_init : LnkI RX4 32 yX3_init cX3_init 3 1 := ⟨w_87, w_88, rfl, w_28, w_89, ⟨by decide +kernel, by decide +kernel⟩, by decide +kernel⟩
set_option maxHeartbeats 4000000 in
set_option maxRecDepth 100000 in
theorem c_X4_init (l : Launch) (g : kG) (qx : Nat) : MV l yX4_init cX4_init 2 none (rc 3 56 42 458) [.ref qx] ((fun H => H.size = qx + 1 ∧ va_at g.1 kCl (qx, .inr (4, [.null, .null, .int (nI 0), .null, .null, .null, .null])) H)) g 42 458 (fun z => qx ≤ z) (fun H1 => H1.size = qx + 43 ∧ XW g (k_xd qx) (k_ad (qx + 7)) (k_M qx) s_ini 0 H1) := by
  refine kOf (by decide) (Nat.le_of_ble_eq_true rfl) (fun p e s m below meth c ls hC hr hlk hin hK hP hl => ?_)
  have hx := hC.1
  have hb := hC.2.1
  have hml := hC.2.2.1
  have hown := hC.2.2.2.1
  have hts := hC.2.2.2.2
  have hl : lv_has ls 2 [(0, .ref qx)] := hl
  obtain ⟨hsz, hv0⟩ := hP
  have hS : va_S (fun z => qx ≤ z) s.heap s.heap [] := va_S.rf
  refine lv_aload_n hx hb dX4_init_0 rfl (lvG hl rfl) ?_
  refine W.objInit hx hb hown (hts _ w_37) (hts _ w_38) (hts _ w_39) rfl (by rw [hml]; exact hl.1) rfl dX4_init_1 (Nat.le_of_ble_eq_true rfl) (Nat.le_of_ble_eq_true rfl) ?_
  refine W.eq (g2 := F0 m 4 ls []) rfl ?_
  refine lv_aload_n hx hb dX4_init_4 rfl (lvG hl rfl) ?_
  refine k_newO (ci := 0) (fs := [.int (nI 0), .int (nI 0), .null, .null]) (C := RX0) (T := TX0) (N := 4) hC hK i_X0 tyX0 tyX0_ok w_40 w_41 w_26 hS rfl (by exact bl_X0) (Nat.le_of_ble_eq_true rfl) (Nat.le_of_ble_eq_true rfl) dX4_init_5 (fun q_1 H_2 eq_3 hv_4 hz_5 hk_6 hS_7 => ?_)
  have hv_8 : va_at g.1 kCl ((qx, .inr (4, [.null, .null, .int (nI 0), .null, .null, .null, .null]))) H_2 := va_at.kept hv0 (hk_6 _ hv0.lt)
  refine lv_dup hx hb dX4_init_8 rfl ?_
  refine k_callMV (k_goI (rest := [.ref q_1, .ref qx]) hC hK (c_X0_init l g q_1 (H_2.size)) L_X4_X0_init (⟨⟨Nat.le_of_ble_eq_true rfl, Nat.le_of_ble_eq_true rfl⟩, ⟨rfl, rfl⟩, ⟨Nat.le_of_ble_eq_true rfl, Nat.le_of_ble_eq_true rfl⟩⟩) (⟨rfl, hv_4⟩) rfl hl.1 rfl (Nat.le_of_ble_eq_true rfl) dX4_init_9) hS_7 (fun z hz9 => by have hz8 : z = q_1 ∨ H_2.size ≤ z := hz9; show qx ≤ z; omega) (fun H_9 locs_10 hQ_11 hz_ hk_13 hS_12 => ?_)
  obtain ⟨q_14, eq_15⟩ : ∃ z, z = Array.size H_2 := ⟨_, rfl⟩
  have hv_16 : va_at g.1 kCl ((qx, .inr (4, [.null, .null, .int (nI 0), .null, .null, .null, .null]))) H_9 := va_at.kept hv_8 (hk_13 qx hv_8.lt (by have hlt9 := hv_8.lt; show ¬ (qx = q_1 ∨ Array.size H_2 ≤ qx); omega))
  rw [← eq_15] at hQ_11
  obtain ⟨hz_17, hpp_18⟩ := hQ_11
  have hv_19 : va_at g.1 kCl ((q_1, .inr (0, [.int (nI 0), .int (nI 0), .ref q_14, .ref (q_14 + 1)]))) H_9 := hpp_18 0 _ rfl
  have hv_20 : va_at g.1 kCl (cI g q_14 21 ((fun _ => nI 0))) H_9 := hpp_18 1 _ rfl
  have hv_21 : va_at g.1 kCl (cI g (q_14 + 1) 21 ((fun _ => nI 0))) H_9 := hpp_18 2 _ rfl
  refine k_putFO (ci := 4) (v := .ref q_1) (ty := .object RX0) (C := RX4) (T := TX4) (N := 7) hC hK i_X4 tyX4 tyX4_ok nmX4 ((va_one hv_16)) (D1 (A := fun z => qx ≤ z) (show qx ≤ qx by omega)) hS_12 0 rfl rfl 3 (by decide) w_178 (fun _ h9 => h9) rfl hin rfl (by decide +kernel) rfl rfl (Nat.le_of_ble_eq_true rfl) dX4_init_12 (fun H_22 locs_23 hP_24 hD_25 hS_26 hz_27 hk_28 => ?_)
  have hv_29 : va_at g.1 kCl ((q_1, .inr (0, [.int (nI 0), .int (nI 0), .ref q_14, .ref (q_14 + 1)]))) H_22 := va_at.kept hv_19 (hk_28 q_1 (by omega))
  have hv_30 : va_at g.1 kCl (cI g q_14 21 ((fun _ => nI 0))) H_22 := va_at.kept hv_20 (hk_28 q_14 (by omega))
  have hv_31 : va_at g.1 kCl (cI g (q_14 + 1) 21 ((fun _ => nI 0))) H_22 := va_at.kept hv_21 (hk_28 (q_14 + 1) (by omega))
  have hv_32 : va_at g.1 kCl ((qx, .inr (4, [.null, .null, .int (nI 0), .ref q_1, .null, .null, .null]))) H_22 := hP_24 0 _ rfl
  refine lv_aload_n hx hb dX4_init_15 rfl (lvG hl rfl) ?_
  refine k_newO (ci := 2) (fs := [.int (nI 0), .int (nI 0), .int (nI 0), .int (nI 0)]) (C := RX2) (T := TX2) (N := 4) hC hK i_X2 tyX2 tyX2_ok w_62 w_63 w_27 hS_26 rfl (by exact bl_X2) (Nat.le_of_ble_eq_true rfl) (Nat.le_of_ble_eq_true rfl) dX4_init_16 (fun q_33 H_34 eq_35 hv_36 hz_37 hk_38 hS_39 => ?_)
  have hv_40 : va_at g.1 kCl ((qx, .inr (4, [.null, .null, .int (nI 0), .ref q_1, .null, .null, .null]))) H_34 := va_at.kept hv_32 (hk_38 _ hv_32.lt)
  have hv_41 : va_at g.1 kCl ((q_1, .inr (0, [.int (nI 0), .int (nI 0), .ref q_14, .ref (q_14 + 1)]))) H_34 := va_at.kept hv_29 (hk_38 _ hv_29.lt)
  have hv_42 : va_at g.1 kCl (cI g q_14 21 ((fun _ => nI 0))) H_34 := va_at.kept hv_30 (hk_38 _ hv_30.lt)
  have hv_43 : va_at g.1 kCl (cI g (q_14 + 1) 21 ((fun _ => nI 0))) H_34 := va_at.kept hv_31 (hk_38 _ hv_31.lt)
  refine lv_dup hx hb dX4_init_19 rfl ?_
  refine k_callMV0 (k_goI (rest := [.ref q_33, .ref qx]) hC hK (c_X2_init l g q_33 (H_34.size)) L_X4_X2_init (⟨⟨Nat.le_of_ble_eq_true rfl, Nat.le_of_ble_eq_true rfl⟩, ⟨rfl, rfl⟩, ⟨Nat.le_of_ble_eq_true rfl, Nat.le_of_ble_eq_true rfl⟩⟩) (⟨rfl, hv_36⟩) rfl hl.1 rfl (Nat.le_of_ble_eq_true rfl) dX4_init_20) hS_39 (fun z hz9 => by have hz8 : z = q_33 := hz9; show qx ≤ z; omega) (fun H_44 locs_45 hQ_46 hz_ hk_48 hS_47 => ?_)
  obtain ⟨q_49, eq_50⟩ : ∃ z, z = Array.size H_34 := ⟨_, rfl⟩
  have hv_51 : va_at g.1 kCl ((qx, .inr (4, [.null, .null, .int (nI 0), .ref q_1, .null, .null, .null]))) H_44 := va_at.kept hv_40 (hk_48 qx hv_40.lt (by have hlt9 := hv_40.lt; show ¬ (qx = q_33); omega))
  have hv_52 : va_at g.1 kCl ((q_1, .inr (0, [.int (nI 0), .int (nI 0), .ref q_14, .ref (q_14 + 1)]))) H_44 := va_at.kept hv_41 (hk_48 q_1 hv_41.lt (by have hlt9 := hv_41.lt; show ¬ (q_1 = q_33); omega))
  have hv_53 : va_at g.1 kCl (cI g q_14 21 ((fun _ => nI 0))) H_44 := va_at.kept hv_42 (hk_48 q_14 hv_42.lt (by have hlt9 := hv_42.lt; show ¬ (q_14 = q_33); omega))
  have hv_54 : va_at g.1 kCl (cI g (q_14 + 1) 21 ((fun _ => nI 0))) H_44 := va_at.kept hv_43 (hk_48 (q_14 + 1) hv_43.lt (by have hlt9 := hv_43.lt; show ¬ (q_14 + 1 = q_33); omega))
  obtain ⟨hz_55, hpp_56⟩ := hQ_46
  have hv_57 : va_at g.1 kCl ((q_33, .inr (2, [.int (nI 0), .int (nI 8), .int (nI 18), .int (nI 4)]))) H_44 := hpp_56 0 _ rfl
  refine k_putFO (ci := 4) (v := .ref q_33) (ty := .object RX2) (C := RX4) (T := TX4) (N := 7) hC hK i_X4 tyX4 tyX4_ok nmX4 ((va_one hv_51)) (D1 (A := fun z => qx ≤ z) (show qx ≤ qx by omega)) hS_47 0 rfl rfl 4 (by decide) w_179 (fun _ h9 => h9) rfl hin rfl (by decide +kernel) rfl rfl (Nat.le_of_ble_eq_true rfl) dX4_init_23 (fun H_58 locs_59 hP_60 hD_61 hS_62 hz_63 hk_64 => ?_)
  have hv_65 : va_at g.1 kCl ((q_1, .inr (0, [.int (nI 0), .int (nI 0), .ref q_14, .ref (q_14 + 1)]))) H_58 := va_at.kept hv_52 (hk_64 q_1 (by omega))
  have hv_66 : va_at g.1 kCl (cI g q_14 21 ((fun _ => nI 0))) H_58 := va_at.kept hv_53 (hk_64 q_14 (by omega))
  have hv_67 : va_at g.1 kCl (cI g (q_14 + 1) 21 ((fun _ => nI 0))) H_58 := va_at.kept hv_54 (hk_64 (q_14 + 1) (by omega))
  have hv_68 : va_at g.1 kCl ((q_33, .inr (2, [.int (nI 0), .int (nI 8), .int (nI 18), .int (nI 4)]))) H_58 := va_at.kept hv_57 (hk_64 q_33 (by omega))
  have hv_69 : va_at g.1 kCl ((qx, .inr (4, [.null, .null, .int (nI 0), .ref q_1, .ref q_33, .null, .null]))) H_58 := hP_60 0 _ rfl
  refine lv_aload_n hx hb dX4_init_26 rfl (lvG hl rfl) ?_
  refine k_newO (ci := 2) (fs := [.int (nI 0), .int (nI 0), .int (nI 0), .int (nI 0)]) (C := RX2) (T := TX2) (N := 4) hC hK i_X2 tyX2 tyX2_ok w_62 w_63 w_27 hS_62 rfl (by exact bl_X2) (Nat.le_of_ble_eq_true rfl) (Nat.le_of_ble_eq_true rfl) dX4_init_27 (fun q_70 H_71 eq_72 hv_73 hz_74 hk_75 hS_76 => ?_)
  have hv_77 : va_at g.1 kCl ((qx, .inr (4, [.null, .null, .int (nI 0), .ref q_1, .ref q_33, .null, .null]))) H_71 := va_at.kept hv_69 (hk_75 _ hv_69.lt)
  have hv_78 : va_at g.1 kCl ((q_1, .inr (0, [.int (nI 0), .int (nI 0), .ref q_14, .ref (q_14 + 1)]))) H_71 := va_at.kept hv_65 (hk_75 _ hv_65.lt)
  have hv_79 : va_at g.1 kCl (cI g q_14 21 ((fun _ => nI 0))) H_71 := va_at.kept hv_66 (hk_75 _ hv_66.lt)
  have hv_80 : va_at g.1 kCl (cI g (q_14 + 1) 21 ((fun _ => nI 0))) H_71 := va_at.kept hv_67 (hk_75 _ hv_67.lt)
  have hv_81 : va_at g.1 kCl ((q_33, .inr (2, [.int (nI 0), .int (nI 8), .int (nI 18), .int (nI 4)]))) H_71 := va_at.kept hv_68 (hk_75 _ hv_68.lt)
  refine lv_dup hx hb dX4_init_30 rfl ?_
  refine k_callMV0 (k_goI (rest := [.ref q_70, .ref qx]) hC hK (c_X2_init l g q_70 (H_71.size)) L_X4_X2_init (⟨⟨Nat.le_of_ble_eq_true rfl, Nat.le_of_ble_eq_true rfl⟩, ⟨rfl, rfl⟩, ⟨Nat.le_of_ble_eq_true rfl, Nat.le_of_ble_eq_true rfl⟩⟩) (⟨rfl, hv_73⟩) rfl hl.1 rfl (Nat.le_of_ble_eq_true rfl) dX4_init_31) hS_76 (fun z hz9 => by have hz8 : z = q_70 := hz9; show qx ≤ z; omega) (fun H_82 locs_83 hQ_84 hz_ hk_86 hS_85 => ?_)
  obtain ⟨q_87, eq_88⟩ : ∃ z, z = Array.size H_71 := ⟨_, rfl⟩
  have hv_89 : va_at g.1 kCl ((qx, .inr (4, [.null, .null, .int (nI 0), .ref q_1, .ref q_33, .null, .null]))) H_82 := va_at.kept hv_77 (hk_86 qx hv_77.lt (by have hlt9 := hv_77.lt; show ¬ (qx = q_70); omega))
  have hv_90 : va_at g.1 kCl ((q_1, .inr (0, [.int (nI 0), .int (nI 0), .ref q_14, .ref (q_14 + 1)]))) H_82 := va_at.kept hv_78 (hk_86 q_1 hv_78.lt (by have hlt9 := hv_78.lt; show ¬ (q_1 = q_70); omega))
  have hv_91 : va_at g.1 kCl (cI g q_14 21 ((fun _ => nI 0))) H_82 := va_at.kept hv_79 (hk_86 q_14 hv_79.lt (by have hlt9 := hv_79.lt; show ¬ (q_14 = q_70); omega))
  have hv_92 : va_at g.1 kCl (cI g (q_14 + 1) 21 ((fun _ => nI 0))) H_82 := va_at.kept hv_80 (hk_86 (q_14 + 1) hv_80.lt (by have hlt9 := hv_80.lt; show ¬ (q_14 + 1 = q_70); omega))
  have hv_93 : va_at g.1 kCl ((q_33, .inr (2, [.int (nI 0), .int (nI 8), .int (nI 18), .int (nI 4)]))) H_82 := va_at.kept hv_81 (hk_86 q_33 hv_81.lt (by have hlt9 := hv_81.lt; show ¬ (q_33 = q_70); omega))
  obtain ⟨hz_94, hpp_95⟩ := hQ_84
  have hv_96 : va_at g.1 kCl ((q_70, .inr (2, [.int (nI 0), .int (nI 8), .int (nI 18), .int (nI 4)]))) H_82 := hpp_95 0 _ rfl
  refine k_putFO (ci := 4) (v := .ref q_70) (ty := .object RX2) (C := RX4) (T := TX4) (N := 7) hC hK i_X4 tyX4 tyX4_ok nmX4 ((va_one hv_89)) (D1 (A := fun z => qx ≤ z) (show qx ≤ qx by omega)) hS_85 0 rfl rfl 5 (by decide) w_180 (fun _ h9 => h9) rfl hin rfl (by decide +kernel) rfl rfl (Nat.le_of_ble_eq_true rfl) dX4_init_34 (fun H_97 locs_98 hP_99 hD_100 hS_101 hz_102 hk_103 => ?_)
  have hv_104 : va_at g.1 kCl ((q_1, .inr (0, [.int (nI 0), .int (nI 0), .ref q_14, .ref (q_14 + 1)]))) H_97 := va_at.kept hv_90 (hk_103 q_1 (by omega))
  have hv_105 : va_at g.1 kCl (cI g q_14 21 ((fun _ => nI 0))) H_97 := va_at.kept hv_91 (hk_103 q_14 (by omega))
  have hv_106 : va_at g.1 kCl (cI g (q_14 + 1) 21 ((fun _ => nI 0))) H_97 := va_at.kept hv_92 (hk_103 (q_14 + 1) (by omega))
  have hv_107 : va_at g.1 kCl ((q_33, .inr (2, [.int (nI 0), .int (nI 8), .int (nI 18), .int (nI 4)]))) H_97 := va_at.kept hv_93 (hk_103 q_33 (by omega))
  have hv_108 : va_at g.1 kCl ((q_70, .inr (2, [.int (nI 0), .int (nI 8), .int (nI 18), .int (nI 4)]))) H_97 := va_at.kept hv_96 (hk_103 q_70 (by omega))
  have hv_109 : va_at g.1 kCl ((qx, .inr (4, [.null, .null, .int (nI 0), .ref q_1, .ref q_33, .ref q_70, .null]))) H_97 := hP_99 0 _ rfl
  refine lv_aload_n hx hb dX4_init_37 rfl (lvG hl rfl) ?_
  refine lv_bipush (v := nI 10) hx hb dX4_init_38 (by decide) ?_
  refine k_newaO (n := 10) hC hK w_61 hS_101 (by decide) (Nat.le_of_ble_eq_true rfl) (Nat.le_of_ble_eq_true rfl) dX4_init_40 (fun q_110 H_111 eq_112 hv_113 hz_114 hk_115 hS_116 => ?_)
  have hv_117 : va_at g.1 kCl ((qx, .inr (4, [.null, .null, .int (nI 0), .ref q_1, .ref q_33, .ref q_70, .null]))) H_111 := va_at.kept hv_109 (hk_115 _ hv_109.lt)
  have hv_118 : va_at g.1 kCl ((q_1, .inr (0, [.int (nI 0), .int (nI 0), .ref q_14, .ref (q_14 + 1)]))) H_111 := va_at.kept hv_104 (hk_115 _ hv_104.lt)
  have hv_119 : va_at g.1 kCl (cI g q_14 21 ((fun _ => nI 0))) H_111 := va_at.kept hv_105 (hk_115 _ hv_105.lt)
  have hv_120 : va_at g.1 kCl (cI g (q_14 + 1) 21 ((fun _ => nI 0))) H_111 := va_at.kept hv_106 (hk_115 _ hv_106.lt)
  have hv_121 : va_at g.1 kCl ((q_33, .inr (2, [.int (nI 0), .int (nI 8), .int (nI 18), .int (nI 4)]))) H_111 := va_at.kept hv_107 (hk_115 _ hv_107.lt)
  have hv_122 : va_at g.1 kCl ((q_70, .inr (2, [.int (nI 0), .int (nI 8), .int (nI 18), .int (nI 4)]))) H_111 := va_at.kept hv_108 (hk_115 _ hv_108.lt)
  refine k_putFO (ci := 4) (v := .ref q_110) (ty := .array .int) (C := RX4) (T := TX4) (N := 7) hC hK i_X4 tyX4 tyX4_ok nmX4 ((va_one hv_117)) (D1 (A := fun z => qx ≤ z) (show qx ≤ qx by omega)) hS_116 0 rfl rfl 6 (by decide) w_181 (fun _ h9 => h9) rfl hin rfl (by decide +kernel) rfl rfl (Nat.le_of_ble_eq_true rfl) dX4_init_42 (fun H_123 locs_124 hP_125 hD_126 hS_127 hz_128 hk_129 => ?_)
  have hv_130 : va_at g.1 kCl ((q_1, .inr (0, [.int (nI 0), .int (nI 0), .ref q_14, .ref (q_14 + 1)]))) H_123 := va_at.kept hv_118 (hk_129 q_1 (by omega))
  have hv_131 : va_at g.1 kCl (cI g q_14 21 ((fun _ => nI 0))) H_123 := va_at.kept hv_119 (hk_129 q_14 (by omega))
  have hv_132 : va_at g.1 kCl (cI g (q_14 + 1) 21 ((fun _ => nI 0))) H_123 := va_at.kept hv_120 (hk_129 (q_14 + 1) (by omega))
  have hv_133 : va_at g.1 kCl ((q_33, .inr (2, [.int (nI 0), .int (nI 8), .int (nI 18), .int (nI 4)]))) H_123 := va_at.kept hv_121 (hk_129 q_33 (by omega))
  have hv_134 : va_at g.1 kCl ((q_70, .inr (2, [.int (nI 0), .int (nI 8), .int (nI 18), .int (nI 4)]))) H_123 := va_at.kept hv_122 (hk_129 q_70 (by omega))
  have hv_135 : va_at g.1 kCl (cI g q_110 10 ((fun _ => nI 0))) H_123 := va_at.kept hv_113 (hk_129 q_110 (by omega))
  have hv_136 : va_at g.1 kCl ((qx, .inr (4, [.null, .null, .int (nI 0), .ref q_1, .ref q_33, .ref q_70, .ref q_110]))) H_123 := hP_125 0 _ rfl
  refine lv_aload_n hx hb dX4_init_45 rfl (lvG hl rfl) ?_
  refine k_newO (ci := 3) (fs := [.int (nI 0), .int (nI 0), .int (nI 0), .int (nI 0), .int (nI 0), .int (nI 0), .int (nI 0), .int (nI 0), .null, .null, .null, .null, .int (nI 0)]) (C := RX3) (T := TX3) (N := 13) hC hK i_X3 tyX3 tyX3_ok w_85 w_86 w_28 hS_127 rfl (by exact bl_X3) (Nat.le_of_ble_eq_true rfl) (Nat.le_of_ble_eq_true rfl) dX4_init_46 (fun q_137 H_138 eq_139 hv_140 hz_141 hk_142 hS_143 => ?_)
  have hv_144 : va_at g.1 kCl ((qx, .inr (4, [.null, .null, .int (nI 0), .ref q_1, .ref q_33, .ref q_70, .ref q_110]))) H_138 := va_at.kept hv_136 (hk_142 _ hv_136.lt)
  have hv_145 : va_at g.1 kCl ((q_1, .inr (0, [.int (nI 0), .int (nI 0), .ref q_14, .ref (q_14 + 1)]))) H_138 := va_at.kept hv_130 (hk_142 _ hv_130.lt)
  have hv_146 : va_at g.1 kCl (cI g q_14 21 ((fun _ => nI 0))) H_138 := va_at.kept hv_131 (hk_142 _ hv_131.lt)
  have hv_147 : va_at g.1 kCl (cI g (q_14 + 1) 21 ((fun _ => nI 0))) H_138 := va_at.kept hv_132 (hk_142 _ hv_132.lt)
  have hv_148 : va_at g.1 kCl ((q_33, .inr (2, [.int (nI 0), .int (nI 8), .int (nI 18), .int (nI 4)]))) H_138 := va_at.kept hv_133 (hk_142 _ hv_133.lt)
  have hv_149 : va_at g.1 kCl ((q_70, .inr (2, [.int (nI 0), .int (nI 8), .int (nI 18), .int (nI 4)]))) H_138 := va_at.kept hv_134 (hk_142 _ hv_134.lt)
  have hv_150 : va_at g.1 kCl (cI g q_110 10 ((fun _ => nI 0))) H_138 := va_at.kept hv_135 (hk_142 _ hv_135.lt)
  refine lv_dup hx hb dX4_init_49 rfl ?_
  refine lv_aload_n hx hb dX4_init_50 rfl (lvG hl rfl) ?_
  refine va_get (D := g.1) (ci := 4) (v := .ref q_1) (C := RX4) (T := TX4) (N := 7) hx hb hts i_X4 hown hK.1 ((va_one hv_144)) 0 rfl rfl 3 (by decide) (hts _ w_178) (fun _ h9 => h9) rfl dX4_init_51 ?_
  refine k_callMV (k_goI (rest := [.ref q_137, .ref qx]) hC hK (c_X3_init l g q_137 q_1 [.int (nI 0), .int (nI 0), .ref q_14, .ref (q_14 + 1)] (by omega)) L_X4_X3_init (⟨⟨Nat.le_of_ble_eq_true rfl, Nat.le_of_ble_eq_true rfl⟩, ⟨rfl, rfl⟩, ⟨Nat.le_of_ble_eq_true rfl, Nat.le_of_ble_eq_true rfl⟩⟩) (⟨by omega, hv_140, hv_145⟩) rfl hl.1 rfl (Nat.le_of_ble_eq_true rfl) dX4_init_54) hS_143 (fun z hz9 => by have hz8 : q_137 ≤ z := hz9; show qx ≤ z; omega) (fun H_151 locs_152 hQ_153 hz_ hk_155 hS_154 => ?_)
  have hv_156 : va_at g.1 kCl ((qx, .inr (4, [.null, .null, .int (nI 0), .ref q_1, .ref q_33, .ref q_70, .ref q_110]))) H_151 := va_at.kept hv_144 (hk_155 qx hv_144.lt (by have hlt9 := hv_144.lt; show ¬ (q_137 ≤ qx); omega))
  have hv_157 : va_at g.1 kCl ((q_1, .inr (0, [.int (nI 0), .int (nI 0), .ref q_14, .ref (q_14 + 1)]))) H_151 := va_at.kept hv_145 (hk_155 q_1 hv_145.lt (by have hlt9 := hv_145.lt; show ¬ (q_137 ≤ q_1); omega))
  have hv_158 : va_at g.1 kCl (cI g q_14 21 ((fun _ => nI 0))) H_151 := va_at.kept hv_146 (hk_155 q_14 hv_146.lt (by have hlt9 := hv_146.lt; show ¬ (q_137 ≤ q_14); omega))
  have hv_159 : va_at g.1 kCl (cI g (q_14 + 1) 21 ((fun _ => nI 0))) H_151 := va_at.kept hv_147 (hk_155 (q_14 + 1) hv_147.lt (by have hlt9 := hv_147.lt; show ¬ (q_137 ≤ q_14 + 1); omega))
  have hv_160 : va_at g.1 kCl ((q_33, .inr (2, [.int (nI 0), .int (nI 8), .int (nI 18), .int (nI 4)]))) H_151 := va_at.kept hv_148 (hk_155 q_33 hv_148.lt (by have hlt9 := hv_148.lt; show ¬ (q_137 ≤ q_33); omega))
  have hv_161 : va_at g.1 kCl ((q_70, .inr (2, [.int (nI 0), .int (nI 8), .int (nI 18), .int (nI 4)]))) H_151 := va_at.kept hv_149 (hk_155 q_70 hv_149.lt (by have hlt9 := hv_149.lt; show ¬ (q_137 ≤ q_70); omega))
  have hv_162 : va_at g.1 kCl (cI g q_110 10 ((fun _ => nI 0))) H_151 := va_at.kept hv_150 (hk_155 q_110 hv_150.lt (by have hlt9 := hv_150.lt; show ¬ (q_137 ≤ q_110); omega))
  obtain ⟨hz_163, hpp_164⟩ := hQ_153
  refine k_putFO (ci := 4) (v := .ref q_137) (ty := .object RX3) (C := RX4) (T := TX4) (N := 7) hC hK i_X4 tyX4 tyX4_ok nmX4 ((va_one hv_156)) (D1 (A := fun z => qx ≤ z) (show qx ≤ qx by omega)) hS_154 0 rfl rfl 0 (by decide) w_175 (fun _ h9 => h9) rfl hin rfl (by decide +kernel) rfl rfl (Nat.le_of_ble_eq_true rfl) dX4_init_57 (fun H_165 locs_166 hP_167 hD_168 hS_169 hz_170 hk_171 => ?_)
  have hv_172 : va_at g.1 kCl ((q_1, .inr (0, [.int (nI 0), .int (nI 0), .ref q_14, .ref (q_14 + 1)]))) H_165 := va_at.kept hv_157 (hk_171 q_1 (by omega))
  have hv_173 : va_at g.1 kCl (cI g q_14 21 ((fun _ => nI 0))) H_165 := va_at.kept hv_158 (hk_171 q_14 (by omega))
  have hv_174 : va_at g.1 kCl (cI g (q_14 + 1) 21 ((fun _ => nI 0))) H_165 := va_at.kept hv_159 (hk_171 (q_14 + 1) (by omega))
  have hv_175 : va_at g.1 kCl ((q_33, .inr (2, [.int (nI 0), .int (nI 8), .int (nI 18), .int (nI 4)]))) H_165 := va_at.kept hv_160 (hk_171 q_33 (by omega))
  have hv_176 : va_at g.1 kCl ((q_70, .inr (2, [.int (nI 0), .int (nI 8), .int (nI 18), .int (nI 4)]))) H_165 := va_at.kept hv_161 (hk_171 q_70 (by omega))
  have hv_177 : va_at g.1 kCl (cI g q_110 10 ((fun _ => nI 0))) H_165 := va_at.kept hv_162 (hk_171 q_110 (by omega))
  have hv_178 : va_at g.1 kCl ((qx, .inr (4, [.ref q_137, .null, .int (nI 0), .ref q_1, .ref q_33, .ref q_70, .ref q_110]))) H_165 := hP_167 0 _ rfl
  have hSt_179 : va_P g.1 kCl (wS g (k_ad q_137) s_ini ((fun _ => nI 0)) ((fun _ => some q_1))) H_165 := va_P.kept hpp_164 (fun k z hz9 => hk_171 z.1 (by have := wS_ad k z hz9; omega))
  refine lv_aload_n hx hb dX4_init_60 rfl (lvG hl rfl) ?_
  refine lv_iconst (v := nI 4) hx hb dX4_init_61 (by decide) ?_
  refine k_newqO (n := 4) hC hK 2 rfl hK.2.2.2.2 w_85 hS_169 (by decide) (Nat.le_of_ble_eq_true rfl) (Nat.le_of_ble_eq_true rfl) dX4_init_62 (fun q_180 H_181 eq_182 hv_183 hz_184 hk_185 hS_186 => ?_)
  have hv_187 : va_at g.1 kCl ((qx, .inr (4, [.ref q_137, .null, .int (nI 0), .ref q_1, .ref q_33, .ref q_70, .ref q_110]))) H_181 := va_at.kept hv_178 (hk_185 _ hv_178.lt)
  have hv_188 : va_at g.1 kCl ((q_1, .inr (0, [.int (nI 0), .int (nI 0), .ref q_14, .ref (q_14 + 1)]))) H_181 := va_at.kept hv_172 (hk_185 _ hv_172.lt)
  have hv_189 : va_at g.1 kCl (cI g q_14 21 ((fun _ => nI 0))) H_181 := va_at.kept hv_173 (hk_185 _ hv_173.lt)
  have hv_190 : va_at g.1 kCl (cI g (q_14 + 1) 21 ((fun _ => nI 0))) H_181 := va_at.kept hv_174 (hk_185 _ hv_174.lt)
  have hv_191 : va_at g.1 kCl ((q_33, .inr (2, [.int (nI 0), .int (nI 8), .int (nI 18), .int (nI 4)]))) H_181 := va_at.kept hv_175 (hk_185 _ hv_175.lt)
  have hv_192 : va_at g.1 kCl ((q_70, .inr (2, [.int (nI 0), .int (nI 8), .int (nI 18), .int (nI 4)]))) H_181 := va_at.kept hv_176 (hk_185 _ hv_176.lt)
  have hv_193 : va_at g.1 kCl (cI g q_110 10 ((fun _ => nI 0))) H_181 := va_at.kept hv_177 (hk_185 _ hv_177.lt)
  have hSt_194 : va_P g.1 kCl (wS g (k_ad q_137) s_ini ((fun _ => nI 0)) ((fun _ => some q_1))) H_181 := va_P.kept hSt_179 (fun k z hz9 => hk_185 z.1 (hSt_179 k z hz9).lt)
  refine k_putFO (ci := 4) (v := .ref q_180) (ty := .array (.object RX3)) (C := RX4) (T := TX4) (N := 7) hC hK i_X4 tyX4 tyX4_ok nmX4 ((va_one hv_187)) (D1 (A := fun z => qx ≤ z) (show qx ≤ qx by omega)) hS_186 0 rfl rfl 1 (by decide) w_176 (fun _ h9 => h9) rfl hin rfl (by decide +kernel) rfl rfl (Nat.le_of_ble_eq_true rfl) dX4_init_65 (fun H_195 locs_196 hP_197 hD_198 hS_199 hz_200 hk_201 => ?_)
  have hv_202 : va_at g.1 kCl ((q_1, .inr (0, [.int (nI 0), .int (nI 0), .ref q_14, .ref (q_14 + 1)]))) H_195 := va_at.kept hv_188 (hk_201 q_1 (by omega))
  have hv_203 : va_at g.1 kCl (cI g q_14 21 ((fun _ => nI 0))) H_195 := va_at.kept hv_189 (hk_201 q_14 (by omega))
  have hv_204 : va_at g.1 kCl (cI g (q_14 + 1) 21 ((fun _ => nI 0))) H_195 := va_at.kept hv_190 (hk_201 (q_14 + 1) (by omega))
  have hv_205 : va_at g.1 kCl ((q_33, .inr (2, [.int (nI 0), .int (nI 8), .int (nI 18), .int (nI 4)]))) H_195 := va_at.kept hv_191 (hk_201 q_33 (by omega))
  have hv_206 : va_at g.1 kCl ((q_70, .inr (2, [.int (nI 0), .int (nI 8), .int (nI 18), .int (nI 4)]))) H_195 := va_at.kept hv_192 (hk_201 q_70 (by omega))
  have hv_207 : va_at g.1 kCl (cI g q_110 10 ((fun _ => nI 0))) H_195 := va_at.kept hv_193 (hk_201 q_110 (by omega))
  have hv_208 : va_at g.1 kCl ((q_180, .inl (g.2.2.2, 4, .inr (.inr (.inr (.inr ((fun _ => none)))))))) H_195 := va_at.kept hv_183 (hk_201 q_180 (by omega))
  have hv_209 : va_at g.1 kCl ((qx, .inr (4, [.ref q_137, .ref q_180, .int (nI 0), .ref q_1, .ref q_33, .ref q_70, .ref q_110]))) H_195 := hP_197 0 _ rfl
  have hSt_210 : va_P g.1 kCl (wS g (k_ad q_137) s_ini ((fun _ => nI 0)) ((fun _ => some q_1))) H_195 := va_P.kept hSt_194 (fun k z hz9 => hk_201 z.1 (by have := wS_ad k z hz9; omega))
  refine lv_iconst (v := nI 0) hx hb dX4_init_68 (by decide) ?_
  refine lv_istore_n (lv' := [(1, .int (nI 0)), (0, .ref qx)]) hx hb dX4_init_69 rfl hl (by decide) rfl (fun ls hl => ?_)
  refine lv_iload_n hx hb dX4_init_70 rfl (lvG hl rfl) ?_
  refine lv_iconst (v := nI 4) hx hb dX4_init_71 (by decide) ?_
  refine n_icmp_ge (tgt := 98) hC dX4_init_72 (by decide) (by decide) (by decide) (fun c => absurd c (by decide)) (fun _ => ?_)
  refine lv_aload_n hx hb dX4_init_75 rfl (lvG hl rfl) ?_
  refine va_get (D := g.1) (ci := 4) (v := .ref q_180) (C := RX4) (T := TX4) (N := 7) hx hb hts i_X4 hown hK.1 ((va_one hv_209)) 0 rfl rfl 1 (by decide) (hts _ w_176) (fun _ h9 => h9) rfl dX4_init_76 ?_
  refine lv_iload_n hx hb dX4_init_79 rfl (lvG hl rfl) ?_
  refine k_newO (ci := 3) (fs := [.int (nI 0), .int (nI 0), .int (nI 0), .int (nI 0), .int (nI 0), .int (nI 0), .int (nI 0), .int (nI 0), .null, .null, .null, .null, .int (nI 0)]) (C := RX3) (T := TX3) (N := 13) hC hK i_X3 tyX3 tyX3_ok w_85 w_86 w_28 hS_199 rfl (by exact bl_X3) (Nat.le_of_ble_eq_true rfl) (Nat.le_of_ble_eq_true rfl) dX4_init_80 (fun q_211 H_212 eq_213 hv_214 hz_215 hk_216 hS_217 => ?_)
  have hv_218 : va_at g.1 kCl ((qx, .inr (4, [.ref q_137, .ref q_180, .int (nI 0), .ref q_1, .ref q_33, .ref q_70, .ref q_110]))) H_212 := va_at.kept hv_209 (hk_216 _ hv_209.lt)
  have hv_219 : va_at g.1 kCl ((q_1, .inr (0, [.int (nI 0), .int (nI 0), .ref q_14, .ref (q_14 + 1)]))) H_212 := va_at.kept hv_202 (hk_216 _ hv_202.lt)
  have hv_220 : va_at g.1 kCl (cI g q_14 21 ((fun _ => nI 0))) H_212 := va_at.kept hv_203 (hk_216 _ hv_203.lt)
  have hv_221 : va_at g.1 kCl (cI g (q_14 + 1) 21 ((fun _ => nI 0))) H_212 := va_at.kept hv_204 (hk_216 _ hv_204.lt)
  have hv_222 : va_at g.1 kCl ((q_33, .inr (2, [.int (nI 0), .int (nI 8), .int (nI 18), .int (nI 4)]))) H_212 := va_at.kept hv_205 (hk_216 _ hv_205.lt)
  have hv_223 : va_at g.1 kCl ((q_70, .inr (2, [.int (nI 0), .int (nI 8), .int (nI 18), .int (nI 4)]))) H_212 := va_at.kept hv_206 (hk_216 _ hv_206.lt)
  have hv_224 : va_at g.1 kCl (cI g q_110 10 ((fun _ => nI 0))) H_212 := va_at.kept hv_207 (hk_216 _ hv_207.lt)
  have hv_225 : va_at g.1 kCl ((q_180, .inl (g.2.2.2, 4, .inr (.inr (.inr (.inr ((fun _ => none)))))))) H_212 := va_at.kept hv_208 (hk_216 _ hv_208.lt)
  have hSt_226 : va_P g.1 kCl (wS g (k_ad q_137) s_ini ((fun _ => nI 0)) ((fun _ => some q_1))) H_212 := va_P.kept hSt_210 (fun k z hz9 => hk_216 z.1 (hSt_210 k z hz9).lt)
  refine lv_dup hx hb dX4_init_83 rfl ?_
  refine lv_aload_n hx hb dX4_init_84 rfl (lvG hl rfl) ?_
  refine va_get (D := g.1) (ci := 4) (v := .ref q_1) (C := RX4) (T := TX4) (N := 7) hx hb hts i_X4 hown hK.1 ((va_one hv_218)) 0 rfl rfl 3 (by decide) (hts _ w_178) (fun _ h9 => h9) rfl dX4_init_85 ?_
  refine k_callMV (k_goI (rest := [.ref q_211, .int (nI 0), .ref q_180]) hC hK (c_X3_init l g q_211 q_1 [.int (nI 0), .int (nI 0), .ref q_14, .ref (q_14 + 1)] (by omega)) L_X4_X3_init (⟨⟨Nat.le_of_ble_eq_true rfl, Nat.le_of_ble_eq_true rfl⟩, ⟨rfl, rfl⟩, ⟨Nat.le_of_ble_eq_true rfl, Nat.le_of_ble_eq_true rfl⟩⟩) (⟨by omega, hv_214, hv_219⟩) rfl hl.1 rfl (Nat.le_of_ble_eq_true rfl) dX4_init_88) hS_217 (fun z hz9 => by have hz8 : q_211 ≤ z := hz9; show qx ≤ z; omega) (fun H_227 locs_228 hQ_229 hz_ hk_231 hS_230 => ?_)
  have hv_232 : va_at g.1 kCl ((qx, .inr (4, [.ref q_137, .ref q_180, .int (nI 0), .ref q_1, .ref q_33, .ref q_70, .ref q_110]))) H_227 := va_at.kept hv_218 (hk_231 qx hv_218.lt (by have hlt9 := hv_218.lt; show ¬ (q_211 ≤ qx); omega))
  have hv_233 : va_at g.1 kCl ((q_1, .inr (0, [.int (nI 0), .int (nI 0), .ref q_14, .ref (q_14 + 1)]))) H_227 := va_at.kept hv_219 (hk_231 q_1 hv_219.lt (by have hlt9 := hv_219.lt; show ¬ (q_211 ≤ q_1); omega))
  have hv_234 : va_at g.1 kCl (cI g q_14 21 ((fun _ => nI 0))) H_227 := va_at.kept hv_220 (hk_231 q_14 hv_220.lt (by have hlt9 := hv_220.lt; show ¬ (q_211 ≤ q_14); omega))
  have hv_235 : va_at g.1 kCl (cI g (q_14 + 1) 21 ((fun _ => nI 0))) H_227 := va_at.kept hv_221 (hk_231 (q_14 + 1) hv_221.lt (by have hlt9 := hv_221.lt; show ¬ (q_211 ≤ q_14 + 1); omega))
  have hv_236 : va_at g.1 kCl ((q_33, .inr (2, [.int (nI 0), .int (nI 8), .int (nI 18), .int (nI 4)]))) H_227 := va_at.kept hv_222 (hk_231 q_33 hv_222.lt (by have hlt9 := hv_222.lt; show ¬ (q_211 ≤ q_33); omega))
  have hv_237 : va_at g.1 kCl ((q_70, .inr (2, [.int (nI 0), .int (nI 8), .int (nI 18), .int (nI 4)]))) H_227 := va_at.kept hv_223 (hk_231 q_70 hv_223.lt (by have hlt9 := hv_223.lt; show ¬ (q_211 ≤ q_70); omega))
  have hv_238 : va_at g.1 kCl (cI g q_110 10 ((fun _ => nI 0))) H_227 := va_at.kept hv_224 (hk_231 q_110 hv_224.lt (by have hlt9 := hv_224.lt; show ¬ (q_211 ≤ q_110); omega))
  have hv_239 : va_at g.1 kCl ((q_180, .inl (g.2.2.2, 4, .inr (.inr (.inr (.inr ((fun _ => none)))))))) H_227 := va_at.kept hv_225 (hk_231 q_180 hv_225.lt (by have hlt9 := hv_225.lt; show ¬ (q_211 ≤ q_180); omega))
  have hSt_240 : va_P g.1 kCl (wS g (k_ad q_137) s_ini ((fun _ => nI 0)) ((fun _ => some q_1))) H_227 := va_P.kept hSt_226 (fun k z hz9 => hk_231 z.1 (hSt_226 k z hz9).lt (by have hlt9 := (hSt_226 k z hz9).lt; have := wS_ad k z hz9; show ¬ (q_211 ≤ z.1); omega))
  obtain ⟨hz_241, hpp_242⟩ := hQ_229
  refine q_astO2 (k := 0) hC hK ((va_one hv_239)) (D1 (A := fun z => qx ≤ z) (show qx ≤ q_180 by omega)) hS_230 0 rfl (hpp_242 0 _ rfl) (by decide) (by decide) dX4_init_91 (fun H_243 locs_244 hP_245 hD_246 hS_247 hz_248 hk_249 => ?_)
  have hv_250 : va_at g.1 kCl ((qx, .inr (4, [.ref q_137, .ref q_180, .int (nI 0), .ref q_1, .ref q_33, .ref q_70, .ref q_110]))) H_243 := va_at.kept hv_232 (hk_249 qx (by omega))
  have hv_251 : va_at g.1 kCl ((q_1, .inr (0, [.int (nI 0), .int (nI 0), .ref q_14, .ref (q_14 + 1)]))) H_243 := va_at.kept hv_233 (hk_249 q_1 (by omega))
  have hv_252 : va_at g.1 kCl (cI g q_14 21 ((fun _ => nI 0))) H_243 := va_at.kept hv_234 (hk_249 q_14 (by omega))
  have hv_253 : va_at g.1 kCl (cI g (q_14 + 1) 21 ((fun _ => nI 0))) H_243 := va_at.kept hv_235 (hk_249 (q_14 + 1) (by omega))
  have hv_254 : va_at g.1 kCl ((q_33, .inr (2, [.int (nI 0), .int (nI 8), .int (nI 18), .int (nI 4)]))) H_243 := va_at.kept hv_236 (hk_249 q_33 (by omega))
  have hv_255 : va_at g.1 kCl ((q_70, .inr (2, [.int (nI 0), .int (nI 8), .int (nI 18), .int (nI 4)]))) H_243 := va_at.kept hv_237 (hk_249 q_70 (by omega))
  have hv_256 : va_at g.1 kCl (cI g q_110 10 ((fun _ => nI 0))) H_243 := va_at.kept hv_238 (hk_249 q_110 (by omega))
  have hv_257 : va_at g.1 kCl ((q_180, .inl (g.2.2.2, 4, .inr (.inr (.inr (.inr ((va_up ((fun _ => none)) 0 (some q_211))))))))) H_243 := hP_245 0 _ rfl
  have hSt_258 : va_P g.1 kCl (wS g (k_ad q_137) s_ini ((fun _ => nI 0)) ((fun _ => some q_1))) H_243 := va_P.kept hSt_240 (fun k z hz9 => hk_249 z.1 (by have := wS_ad k z hz9; omega))
  have hSt_259 : va_P g.1 kCl (wS g (k_ad q_211) s_ini ((fun _ => nI 0)) ((fun _ => some q_1))) H_243 := va_P.kept hpp_242 (fun k z hz9 => hk_249 z.1 (by have := wS_ad k z hz9; omega))
  refine n_iinc (lv' := [(1, .int (nI 1)), (0, .ref qx)]) hC dX4_init_92 hl rfl (by decide) rfl (fun ls hl => ?_)
  refine lv_goto (tgt := 70) hx hb dX4_init_95 (by decide) ?_
  refine lv_iload_n hx hb dX4_init_70 rfl (lvG hl rfl) ?_
  refine lv_iconst (v := nI 4) hx hb dX4_init_71 (by decide) ?_
  refine n_icmp_ge (tgt := 98) hC dX4_init_72 (by decide) (by decide) (by decide) (fun c => absurd c (by decide)) (fun _ => ?_)
  refine lv_aload_n hx hb dX4_init_75 rfl (lvG hl rfl) ?_
  refine va_get (D := g.1) (ci := 4) (v := .ref q_180) (C := RX4) (T := TX4) (N := 7) hx hb hts i_X4 hown hK.1 ((va_one hv_250)) 0 rfl rfl 1 (by decide) (hts _ w_176) (fun _ h9 => h9) rfl dX4_init_76 ?_
  refine lv_iload_n hx hb dX4_init_79 rfl (lvG hl rfl) ?_
  refine k_newO (ci := 3) (fs := [.int (nI 0), .int (nI 0), .int (nI 0), .int (nI 0), .int (nI 0), .int (nI 0), .int (nI 0), .int (nI 0), .null, .null, .null, .null, .int (nI 0)]) (C := RX3) (T := TX3) (N := 13) hC hK i_X3 tyX3 tyX3_ok w_85 w_86 w_28 hS_247 rfl (by exact bl_X3) (Nat.le_of_ble_eq_true rfl) (Nat.le_of_ble_eq_true rfl) dX4_init_80 (fun q_260 H_261 eq_262 hv_263 hz_264 hk_265 hS_266 => ?_)
  have hv_267 : va_at g.1 kCl ((qx, .inr (4, [.ref q_137, .ref q_180, .int (nI 0), .ref q_1, .ref q_33, .ref q_70, .ref q_110]))) H_261 := va_at.kept hv_250 (hk_265 _ hv_250.lt)
  have hv_268 : va_at g.1 kCl ((q_1, .inr (0, [.int (nI 0), .int (nI 0), .ref q_14, .ref (q_14 + 1)]))) H_261 := va_at.kept hv_251 (hk_265 _ hv_251.lt)
  have hv_269 : va_at g.1 kCl (cI g q_14 21 ((fun _ => nI 0))) H_261 := va_at.kept hv_252 (hk_265 _ hv_252.lt)
  have hv_270 : va_at g.1 kCl (cI g (q_14 + 1) 21 ((fun _ => nI 0))) H_261 := va_at.kept hv_253 (hk_265 _ hv_253.lt)
  have hv_271 : va_at g.1 kCl ((q_33, .inr (2, [.int (nI 0), .int (nI 8), .int (nI 18), .int (nI 4)]))) H_261 := va_at.kept hv_254 (hk_265 _ hv_254.lt)
  have hv_272 : va_at g.1 kCl ((q_70, .inr (2, [.int (nI 0), .int (nI 8), .int (nI 18), .int (nI 4)]))) H_261 := va_at.kept hv_255 (hk_265 _ hv_255.lt)
  have hv_273 : va_at g.1 kCl (cI g q_110 10 ((fun _ => nI 0))) H_261 := va_at.kept hv_256 (hk_265 _ hv_256.lt)
  have hv_274 : va_at g.1 kCl ((q_180, .inl (g.2.2.2, 4, .inr (.inr (.inr (.inr ((va_up ((fun _ => none)) 0 (some q_211))))))))) H_261 := va_at.kept hv_257 (hk_265 _ hv_257.lt)
  have hSt_275 : va_P g.1 kCl (wS g (k_ad q_137) s_ini ((fun _ => nI 0)) ((fun _ => some q_1))) H_261 := va_P.kept hSt_258 (fun k z hz9 => hk_265 z.1 (hSt_258 k z hz9).lt)
  have hSt_276 : va_P g.1 kCl (wS g (k_ad q_211) s_ini ((fun _ => nI 0)) ((fun _ => some q_1))) H_261 := va_P.kept hSt_259 (fun k z hz9 => hk_265 z.1 (hSt_259 k z hz9).lt)
  refine lv_dup hx hb dX4_init_83 rfl ?_
  refine lv_aload_n hx hb dX4_init_84 rfl (lvG hl rfl) ?_
  refine va_get (D := g.1) (ci := 4) (v := .ref q_1) (C := RX4) (T := TX4) (N := 7) hx hb hts i_X4 hown hK.1 ((va_one hv_267)) 0 rfl rfl 3 (by decide) (hts _ w_178) (fun _ h9 => h9) rfl dX4_init_85 ?_
  refine k_callMV (k_goI (rest := [.ref q_260, .int (nI 1), .ref q_180]) hC hK (c_X3_init l g q_260 q_1 [.int (nI 0), .int (nI 0), .ref q_14, .ref (q_14 + 1)] (by omega)) L_X4_X3_init (⟨⟨Nat.le_of_ble_eq_true rfl, Nat.le_of_ble_eq_true rfl⟩, ⟨rfl, rfl⟩, ⟨Nat.le_of_ble_eq_true rfl, Nat.le_of_ble_eq_true rfl⟩⟩) (⟨by omega, hv_263, hv_268⟩) rfl hl.1 rfl (Nat.le_of_ble_eq_true rfl) dX4_init_88) hS_266 (fun z hz9 => by have hz8 : q_260 ≤ z := hz9; show qx ≤ z; omega) (fun H_277 locs_278 hQ_279 hz_ hk_281 hS_280 => ?_)
  have hv_282 : va_at g.1 kCl ((qx, .inr (4, [.ref q_137, .ref q_180, .int (nI 0), .ref q_1, .ref q_33, .ref q_70, .ref q_110]))) H_277 := va_at.kept hv_267 (hk_281 qx hv_267.lt (by have hlt9 := hv_267.lt; show ¬ (q_260 ≤ qx); omega))
  have hv_283 : va_at g.1 kCl ((q_1, .inr (0, [.int (nI 0), .int (nI 0), .ref q_14, .ref (q_14 + 1)]))) H_277 := va_at.kept hv_268 (hk_281 q_1 hv_268.lt (by have hlt9 := hv_268.lt; show ¬ (q_260 ≤ q_1); omega))
  have hv_284 : va_at g.1 kCl (cI g q_14 21 ((fun _ => nI 0))) H_277 := va_at.kept hv_269 (hk_281 q_14 hv_269.lt (by have hlt9 := hv_269.lt; show ¬ (q_260 ≤ q_14); omega))
  have hv_285 : va_at g.1 kCl (cI g (q_14 + 1) 21 ((fun _ => nI 0))) H_277 := va_at.kept hv_270 (hk_281 (q_14 + 1) hv_270.lt (by have hlt9 := hv_270.lt; show ¬ (q_260 ≤ q_14 + 1); omega))
  have hv_286 : va_at g.1 kCl ((q_33, .inr (2, [.int (nI 0), .int (nI 8), .int (nI 18), .int (nI 4)]))) H_277 := va_at.kept hv_271 (hk_281 q_33 hv_271.lt (by have hlt9 := hv_271.lt; show ¬ (q_260 ≤ q_33); omega))
  have hv_287 : va_at g.1 kCl ((q_70, .inr (2, [.int (nI 0), .int (nI 8), .int (nI 18), .int (nI 4)]))) H_277 := va_at.kept hv_272 (hk_281 q_70 hv_272.lt (by have hlt9 := hv_272.lt; show ¬ (q_260 ≤ q_70); omega))
  have hv_288 : va_at g.1 kCl (cI g q_110 10 ((fun _ => nI 0))) H_277 := va_at.kept hv_273 (hk_281 q_110 hv_273.lt (by have hlt9 := hv_273.lt; show ¬ (q_260 ≤ q_110); omega))
  have hv_289 : va_at g.1 kCl ((q_180, .inl (g.2.2.2, 4, .inr (.inr (.inr (.inr ((va_up ((fun _ => none)) 0 (some q_211))))))))) H_277 := va_at.kept hv_274 (hk_281 q_180 hv_274.lt (by have hlt9 := hv_274.lt; show ¬ (q_260 ≤ q_180); omega))
  have hSt_290 : va_P g.1 kCl (wS g (k_ad q_137) s_ini ((fun _ => nI 0)) ((fun _ => some q_1))) H_277 := va_P.kept hSt_275 (fun k z hz9 => hk_281 z.1 (hSt_275 k z hz9).lt (by have hlt9 := (hSt_275 k z hz9).lt; have := wS_ad k z hz9; show ¬ (q_260 ≤ z.1); omega))
  have hSt_291 : va_P g.1 kCl (wS g (k_ad q_211) s_ini ((fun _ => nI 0)) ((fun _ => some q_1))) H_277 := va_P.kept hSt_276 (fun k z hz9 => hk_281 z.1 (hSt_276 k z hz9).lt (by have hlt9 := (hSt_276 k z hz9).lt; have := wS_ad k z hz9; show ¬ (q_260 ≤ z.1); omega))
  obtain ⟨hz_292, hpp_293⟩ := hQ_279
  refine q_astO2 (k := 1) hC hK ((va_one hv_289)) (D1 (A := fun z => qx ≤ z) (show qx ≤ q_180 by omega)) hS_280 0 rfl (hpp_293 0 _ rfl) (by decide) (by decide) dX4_init_91 (fun H_294 locs_295 hP_296 hD_297 hS_298 hz_299 hk_300 => ?_)
  have hv_301 : va_at g.1 kCl ((qx, .inr (4, [.ref q_137, .ref q_180, .int (nI 0), .ref q_1, .ref q_33, .ref q_70, .ref q_110]))) H_294 := va_at.kept hv_282 (hk_300 qx (by omega))
  have hv_302 : va_at g.1 kCl ((q_1, .inr (0, [.int (nI 0), .int (nI 0), .ref q_14, .ref (q_14 + 1)]))) H_294 := va_at.kept hv_283 (hk_300 q_1 (by omega))
  have hv_303 : va_at g.1 kCl (cI g q_14 21 ((fun _ => nI 0))) H_294 := va_at.kept hv_284 (hk_300 q_14 (by omega))
  have hv_304 : va_at g.1 kCl (cI g (q_14 + 1) 21 ((fun _ => nI 0))) H_294 := va_at.kept hv_285 (hk_300 (q_14 + 1) (by omega))
  have hv_305 : va_at g.1 kCl ((q_33, .inr (2, [.int (nI 0), .int (nI 8), .int (nI 18), .int (nI 4)]))) H_294 := va_at.kept hv_286 (hk_300 q_33 (by omega))
  have hv_306 : va_at g.1 kCl ((q_70, .inr (2, [.int (nI 0), .int (nI 8), .int (nI 18), .int (nI 4)]))) H_294 := va_at.kept hv_287 (hk_300 q_70 (by omega))
  have hv_307 : va_at g.1 kCl (cI g q_110 10 ((fun _ => nI 0))) H_294 := va_at.kept hv_288 (hk_300 q_110 (by omega))
  have hv_308 : va_at g.1 kCl ((q_180, .inl (g.2.2.2, 4, .inr (.inr (.inr (.inr ((va_up ((va_up ((fun _ => none)) 0 (some q_211))) 1 (some q_260))))))))) H_294 := hP_296 0 _ rfl
  have hSt_309 : va_P g.1 kCl (wS g (k_ad q_137) s_ini ((fun _ => nI 0)) ((fun _ => some q_1))) H_294 := va_P.kept hSt_290 (fun k z hz9 => hk_300 z.1 (by have := wS_ad k z hz9; omega))
  have hSt_310 : va_P g.1 kCl (wS g (k_ad q_211) s_ini ((fun _ => nI 0)) ((fun _ => some q_1))) H_294 := va_P.kept hSt_291 (fun k z hz9 => hk_300 z.1 (by have := wS_ad k z hz9; omega))
  have hSt_311 : va_P g.1 kCl (wS g (k_ad q_260) s_ini ((fun _ => nI 0)) ((fun _ => some q_1))) H_294 := va_P.kept hpp_293 (fun k z hz9 => hk_300 z.1 (by have := wS_ad k z hz9; omega))
  refine n_iinc (lv' := [(1, .int (nI 2)), (0, .ref qx)]) hC dX4_init_92 hl rfl (by decide) rfl (fun ls hl => ?_)
  refine lv_goto (tgt := 70) hx hb dX4_init_95 (by decide) ?_
  refine lv_iload_n hx hb dX4_init_70 rfl (lvG hl rfl) ?_
  refine lv_iconst (v := nI 4) hx hb dX4_init_71 (by decide) ?_
  refine n_icmp_ge (tgt := 98) hC dX4_init_72 (by decide) (by decide) (by decide) (fun c => absurd c (by decide)) (fun _ => ?_)
  refine lv_aload_n hx hb dX4_init_75 rfl (lvG hl rfl) ?_
  refine va_get (D := g.1) (ci := 4) (v := .ref q_180) (C := RX4) (T := TX4) (N := 7) hx hb hts i_X4 hown hK.1 ((va_one hv_301)) 0 rfl rfl 1 (by decide) (hts _ w_176) (fun _ h9 => h9) rfl dX4_init_76 ?_
  refine lv_iload_n hx hb dX4_init_79 rfl (lvG hl rfl) ?_
  refine k_newO (ci := 3) (fs := [.int (nI 0), .int (nI 0), .int (nI 0), .int (nI 0), .int (nI 0), .int (nI 0), .int (nI 0), .int (nI 0), .null, .null, .null, .null, .int (nI 0)]) (C := RX3) (T := TX3) (N := 13) hC hK i_X3 tyX3 tyX3_ok w_85 w_86 w_28 hS_298 rfl (by exact bl_X3) (Nat.le_of_ble_eq_true rfl) (Nat.le_of_ble_eq_true rfl) dX4_init_80 (fun q_312 H_313 eq_314 hv_315 hz_316 hk_317 hS_318 => ?_)
  have hv_319 : va_at g.1 kCl ((qx, .inr (4, [.ref q_137, .ref q_180, .int (nI 0), .ref q_1, .ref q_33, .ref q_70, .ref q_110]))) H_313 := va_at.kept hv_301 (hk_317 _ hv_301.lt)
  have hv_320 : va_at g.1 kCl ((q_1, .inr (0, [.int (nI 0), .int (nI 0), .ref q_14, .ref (q_14 + 1)]))) H_313 := va_at.kept hv_302 (hk_317 _ hv_302.lt)
  have hv_321 : va_at g.1 kCl (cI g q_14 21 ((fun _ => nI 0))) H_313 := va_at.kept hv_303 (hk_317 _ hv_303.lt)
  have hv_322 : va_at g.1 kCl (cI g (q_14 + 1) 21 ((fun _ => nI 0))) H_313 := va_at.kept hv_304 (hk_317 _ hv_304.lt)
  have hv_323 : va_at g.1 kCl ((q_33, .inr (2, [.int (nI 0), .int (nI 8), .int (nI 18), .int (nI 4)]))) H_313 := va_at.kept hv_305 (hk_317 _ hv_305.lt)
  have hv_324 : va_at g.1 kCl ((q_70, .inr (2, [.int (nI 0), .int (nI 8), .int (nI 18), .int (nI 4)]))) H_313 := va_at.kept hv_306 (hk_317 _ hv_306.lt)
  have hv_325 : va_at g.1 kCl (cI g q_110 10 ((fun _ => nI 0))) H_313 := va_at.kept hv_307 (hk_317 _ hv_307.lt)
  have hv_326 : va_at g.1 kCl ((q_180, .inl (g.2.2.2, 4, .inr (.inr (.inr (.inr ((va_up ((va_up ((fun _ => none)) 0 (some q_211))) 1 (some q_260))))))))) H_313 := va_at.kept hv_308 (hk_317 _ hv_308.lt)
  have hSt_327 : va_P g.1 kCl (wS g (k_ad q_137) s_ini ((fun _ => nI 0)) ((fun _ => some q_1))) H_313 := va_P.kept hSt_309 (fun k z hz9 => hk_317 z.1 (hSt_309 k z hz9).lt)
  have hSt_328 : va_P g.1 kCl (wS g (k_ad q_211) s_ini ((fun _ => nI 0)) ((fun _ => some q_1))) H_313 := va_P.kept hSt_310 (fun k z hz9 => hk_317 z.1 (hSt_310 k z hz9).lt)
  have hSt_329 : va_P g.1 kCl (wS g (k_ad q_260) s_ini ((fun _ => nI 0)) ((fun _ => some q_1))) H_313 := va_P.kept hSt_311 (fun k z hz9 => hk_317 z.1 (hSt_311 k z hz9).lt)
  refine lv_dup hx hb dX4_init_83 rfl ?_
  refine lv_aload_n hx hb dX4_init_84 rfl (lvG hl rfl) ?_
  refine va_get (D := g.1) (ci := 4) (v := .ref q_1) (C := RX4) (T := TX4) (N := 7) hx hb hts i_X4 hown hK.1 ((va_one hv_319)) 0 rfl rfl 3 (by decide) (hts _ w_178) (fun _ h9 => h9) rfl dX4_init_85 ?_
  refine k_callMV (k_goI (rest := [.ref q_312, .int (nI 2), .ref q_180]) hC hK (c_X3_init l g q_312 q_1 [.int (nI 0), .int (nI 0), .ref q_14, .ref (q_14 + 1)] (by omega)) L_X4_X3_init (⟨⟨Nat.le_of_ble_eq_true rfl, Nat.le_of_ble_eq_true rfl⟩, ⟨rfl, rfl⟩, ⟨Nat.le_of_ble_eq_true rfl, Nat.le_of_ble_eq_true rfl⟩⟩) (⟨by omega, hv_315, hv_320⟩) rfl hl.1 rfl (Nat.le_of_ble_eq_true rfl) dX4_init_88) hS_318 (fun z hz9 => by have hz8 : q_312 ≤ z := hz9; show qx ≤ z; omega) (fun H_330 locs_331 hQ_332 hz_ hk_334 hS_333 => ?_)
  have hv_335 : va_at g.1 kCl ((qx, .inr (4, [.ref q_137, .ref q_180, .int (nI 0), .ref q_1, .ref q_33, .ref q_70, .ref q_110]))) H_330 := va_at.kept hv_319 (hk_334 qx hv_319.lt (by have hlt9 := hv_319.lt; show ¬ (q_312 ≤ qx); omega))
  have hv_336 : va_at g.1 kCl ((q_1, .inr (0, [.int (nI 0), .int (nI 0), .ref q_14, .ref (q_14 + 1)]))) H_330 := va_at.kept hv_320 (hk_334 q_1 hv_320.lt (by have hlt9 := hv_320.lt; show ¬ (q_312 ≤ q_1); omega))
  have hv_337 : va_at g.1 kCl (cI g q_14 21 ((fun _ => nI 0))) H_330 := va_at.kept hv_321 (hk_334 q_14 hv_321.lt (by have hlt9 := hv_321.lt; show ¬ (q_312 ≤ q_14); omega))
  have hv_338 : va_at g.1 kCl (cI g (q_14 + 1) 21 ((fun _ => nI 0))) H_330 := va_at.kept hv_322 (hk_334 (q_14 + 1) hv_322.lt (by have hlt9 := hv_322.lt; show ¬ (q_312 ≤ q_14 + 1); omega))
  have hv_339 : va_at g.1 kCl ((q_33, .inr (2, [.int (nI 0), .int (nI 8), .int (nI 18), .int (nI 4)]))) H_330 := va_at.kept hv_323 (hk_334 q_33 hv_323.lt (by have hlt9 := hv_323.lt; show ¬ (q_312 ≤ q_33); omega))
  have hv_340 : va_at g.1 kCl ((q_70, .inr (2, [.int (nI 0), .int (nI 8), .int (nI 18), .int (nI 4)]))) H_330 := va_at.kept hv_324 (hk_334 q_70 hv_324.lt (by have hlt9 := hv_324.lt; show ¬ (q_312 ≤ q_70); omega))
  have hv_341 : va_at g.1 kCl (cI g q_110 10 ((fun _ => nI 0))) H_330 := va_at.kept hv_325 (hk_334 q_110 hv_325.lt (by have hlt9 := hv_325.lt; show ¬ (q_312 ≤ q_110); omega))
  have hv_342 : va_at g.1 kCl ((q_180, .inl (g.2.2.2, 4, .inr (.inr (.inr (.inr ((va_up ((va_up ((fun _ => none)) 0 (some q_211))) 1 (some q_260))))))))) H_330 := va_at.kept hv_326 (hk_334 q_180 hv_326.lt (by have hlt9 := hv_326.lt; show ¬ (q_312 ≤ q_180); omega))
  have hSt_343 : va_P g.1 kCl (wS g (k_ad q_137) s_ini ((fun _ => nI 0)) ((fun _ => some q_1))) H_330 := va_P.kept hSt_327 (fun k z hz9 => hk_334 z.1 (hSt_327 k z hz9).lt (by have hlt9 := (hSt_327 k z hz9).lt; have := wS_ad k z hz9; show ¬ (q_312 ≤ z.1); omega))
  have hSt_344 : va_P g.1 kCl (wS g (k_ad q_211) s_ini ((fun _ => nI 0)) ((fun _ => some q_1))) H_330 := va_P.kept hSt_328 (fun k z hz9 => hk_334 z.1 (hSt_328 k z hz9).lt (by have hlt9 := (hSt_328 k z hz9).lt; have := wS_ad k z hz9; show ¬ (q_312 ≤ z.1); omega))
  have hSt_345 : va_P g.1 kCl (wS g (k_ad q_260) s_ini ((fun _ => nI 0)) ((fun _ => some q_1))) H_330 := va_P.kept hSt_329 (fun k z hz9 => hk_334 z.1 (hSt_329 k z hz9).lt (by have hlt9 := (hSt_329 k z hz9).lt; have := wS_ad k z hz9; show ¬ (q_312 ≤ z.1); omega))
  obtain ⟨hz_346, hpp_347⟩ := hQ_332
  refine q_astO2 (k := 2) hC hK ((va_one hv_342)) (D1 (A := fun z => qx ≤ z) (show qx ≤ q_180 by omega)) hS_333 0 rfl (hpp_347 0 _ rfl) (by decide) (by decide) dX4_init_91 (fun H_348 locs_349 hP_350 hD_351 hS_352 hz_353 hk_354 => ?_)
  have hv_355 : va_at g.1 kCl ((qx, .inr (4, [.ref q_137, .ref q_180, .int (nI 0), .ref q_1, .ref q_33, .ref q_70, .ref q_110]))) H_348 := va_at.kept hv_335 (hk_354 qx (by omega))
  have hv_356 : va_at g.1 kCl ((q_1, .inr (0, [.int (nI 0), .int (nI 0), .ref q_14, .ref (q_14 + 1)]))) H_348 := va_at.kept hv_336 (hk_354 q_1 (by omega))
  have hv_357 : va_at g.1 kCl (cI g q_14 21 ((fun _ => nI 0))) H_348 := va_at.kept hv_337 (hk_354 q_14 (by omega))
  have hv_358 : va_at g.1 kCl (cI g (q_14 + 1) 21 ((fun _ => nI 0))) H_348 := va_at.kept hv_338 (hk_354 (q_14 + 1) (by omega))
  have hv_359 : va_at g.1 kCl ((q_33, .inr (2, [.int (nI 0), .int (nI 8), .int (nI 18), .int (nI 4)]))) H_348 := va_at.kept hv_339 (hk_354 q_33 (by omega))
  have hv_360 : va_at g.1 kCl ((q_70, .inr (2, [.int (nI 0), .int (nI 8), .int (nI 18), .int (nI 4)]))) H_348 := va_at.kept hv_340 (hk_354 q_70 (by omega))
  have hv_361 : va_at g.1 kCl (cI g q_110 10 ((fun _ => nI 0))) H_348 := va_at.kept hv_341 (hk_354 q_110 (by omega))
  have hv_362 : va_at g.1 kCl ((q_180, .inl (g.2.2.2, 4, .inr (.inr (.inr (.inr ((va_up ((va_up ((va_up ((fun _ => none)) 0 (some q_211))) 1 (some q_260))) 2 (some q_312))))))))) H_348 := hP_350 0 _ rfl
  have hSt_363 : va_P g.1 kCl (wS g (k_ad q_137) s_ini ((fun _ => nI 0)) ((fun _ => some q_1))) H_348 := va_P.kept hSt_343 (fun k z hz9 => hk_354 z.1 (by have := wS_ad k z hz9; omega))
  have hSt_364 : va_P g.1 kCl (wS g (k_ad q_211) s_ini ((fun _ => nI 0)) ((fun _ => some q_1))) H_348 := va_P.kept hSt_344 (fun k z hz9 => hk_354 z.1 (by have := wS_ad k z hz9; omega))
  have hSt_365 : va_P g.1 kCl (wS g (k_ad q_260) s_ini ((fun _ => nI 0)) ((fun _ => some q_1))) H_348 := va_P.kept hSt_345 (fun k z hz9 => hk_354 z.1 (by have := wS_ad k z hz9; omega))
  have hSt_366 : va_P g.1 kCl (wS g (k_ad q_312) s_ini ((fun _ => nI 0)) ((fun _ => some q_1))) H_348 := va_P.kept hpp_347 (fun k z hz9 => hk_354 z.1 (by have := wS_ad k z hz9; omega))
  refine n_iinc (lv' := [(1, .int (nI 3)), (0, .ref qx)]) hC dX4_init_92 hl rfl (by decide) rfl (fun ls hl => ?_)
  refine lv_goto (tgt := 70) hx hb dX4_init_95 (by decide) ?_
  refine lv_iload_n hx hb dX4_init_70 rfl (lvG hl rfl) ?_
  refine lv_iconst (v := nI 4) hx hb dX4_init_71 (by decide) ?_
  refine n_icmp_ge (tgt := 98) hC dX4_init_72 (by decide) (by decide) (by decide) (fun c => absurd c (by decide)) (fun _ => ?_)
  refine lv_aload_n hx hb dX4_init_75 rfl (lvG hl rfl) ?_
  refine va_get (D := g.1) (ci := 4) (v := .ref q_180) (C := RX4) (T := TX4) (N := 7) hx hb hts i_X4 hown hK.1 ((va_one hv_355)) 0 rfl rfl 1 (by decide) (hts _ w_176) (fun _ h9 => h9) rfl dX4_init_76 ?_
  refine lv_iload_n hx hb dX4_init_79 rfl (lvG hl rfl) ?_
  refine k_newO (ci := 3) (fs := [.int (nI 0), .int (nI 0), .int (nI 0), .int (nI 0), .int (nI 0), .int (nI 0), .int (nI 0), .int (nI 0), .null, .null, .null, .null, .int (nI 0)]) (C := RX3) (T := TX3) (N := 13) hC hK i_X3 tyX3 tyX3_ok w_85 w_86 w_28 hS_352 rfl (by exact bl_X3) (Nat.le_of_ble_eq_true rfl) (Nat.le_of_ble_eq_true rfl) dX4_init_80 (fun q_367 H_368 eq_369 hv_370 hz_371 hk_372 hS_373 => ?_)
  have hv_374 : va_at g.1 kCl ((qx, .inr (4, [.ref q_137, .ref q_180, .int (nI 0), .ref q_1, .ref q_33, .ref q_70, .ref q_110]))) H_368 := va_at.kept hv_355 (hk_372 _ hv_355.lt)
  have hv_375 : va_at g.1 kCl ((q_1, .inr (0, [.int (nI 0), .int (nI 0), .ref q_14, .ref (q_14 + 1)]))) H_368 := va_at.kept hv_356 (hk_372 _ hv_356.lt)
  have hv_376 : va_at g.1 kCl (cI g q_14 21 ((fun _ => nI 0))) H_368 := va_at.kept hv_357 (hk_372 _ hv_357.lt)
  have hv_377 : va_at g.1 kCl (cI g (q_14 + 1) 21 ((fun _ => nI 0))) H_368 := va_at.kept hv_358 (hk_372 _ hv_358.lt)
  have hv_378 : va_at g.1 kCl ((q_33, .inr (2, [.int (nI 0), .int (nI 8), .int (nI 18), .int (nI 4)]))) H_368 := va_at.kept hv_359 (hk_372 _ hv_359.lt)
  have hv_379 : va_at g.1 kCl ((q_70, .inr (2, [.int (nI 0), .int (nI 8), .int (nI 18), .int (nI 4)]))) H_368 := va_at.kept hv_360 (hk_372 _ hv_360.lt)
  have hv_380 : va_at g.1 kCl (cI g q_110 10 ((fun _ => nI 0))) H_368 := va_at.kept hv_361 (hk_372 _ hv_361.lt)
  have hv_381 : va_at g.1 kCl ((q_180, .inl (g.2.2.2, 4, .inr (.inr (.inr (.inr ((va_up ((va_up ((va_up ((fun _ => none)) 0 (some q_211))) 1 (some q_260))) 2 (some q_312))))))))) H_368 := va_at.kept hv_362 (hk_372 _ hv_362.lt)
  have hSt_382 : va_P g.1 kCl (wS g (k_ad q_137) s_ini ((fun _ => nI 0)) ((fun _ => some q_1))) H_368 := va_P.kept hSt_363 (fun k z hz9 => hk_372 z.1 (hSt_363 k z hz9).lt)
  have hSt_383 : va_P g.1 kCl (wS g (k_ad q_211) s_ini ((fun _ => nI 0)) ((fun _ => some q_1))) H_368 := va_P.kept hSt_364 (fun k z hz9 => hk_372 z.1 (hSt_364 k z hz9).lt)
  have hSt_384 : va_P g.1 kCl (wS g (k_ad q_260) s_ini ((fun _ => nI 0)) ((fun _ => some q_1))) H_368 := va_P.kept hSt_365 (fun k z hz9 => hk_372 z.1 (hSt_365 k z hz9).lt)
  have hSt_385 : va_P g.1 kCl (wS g (k_ad q_312) s_ini ((fun _ => nI 0)) ((fun _ => some q_1))) H_368 := va_P.kept hSt_366 (fun k z hz9 => hk_372 z.1 (hSt_366 k z hz9).lt)
  refine lv_dup hx hb dX4_init_83 rfl ?_
  refine lv_aload_n hx hb dX4_init_84 rfl (lvG hl rfl) ?_
  refine va_get (D := g.1) (ci := 4) (v := .ref q_1) (C := RX4) (T := TX4) (N := 7) hx hb hts i_X4 hown hK.1 ((va_one hv_374)) 0 rfl rfl 3 (by decide) (hts _ w_178) (fun _ h9 => h9) rfl dX4_init_85 ?_
  refine k_callMV (k_goI (rest := [.ref q_367, .int (nI 3), .ref q_180]) hC hK (c_X3_init l g q_367 q_1 [.int (nI 0), .int (nI 0), .ref q_14, .ref (q_14 + 1)] (by omega)) L_X4_X3_init (⟨⟨Nat.le_of_ble_eq_true rfl, Nat.le_of_ble_eq_true rfl⟩, ⟨rfl, rfl⟩, ⟨Nat.le_of_ble_eq_true rfl, Nat.le_of_ble_eq_true rfl⟩⟩) (⟨by omega, hv_370, hv_375⟩) rfl hl.1 rfl (Nat.le_of_ble_eq_true rfl) dX4_init_88) hS_373 (fun z hz9 => by have hz8 : q_367 ≤ z := hz9; show qx ≤ z; omega) (fun H_386 locs_387 hQ_388 hz_ hk_390 hS_389 => ?_)
  have hv_391 : va_at g.1 kCl ((qx, .inr (4, [.ref q_137, .ref q_180, .int (nI 0), .ref q_1, .ref q_33, .ref q_70, .ref q_110]))) H_386 := va_at.kept hv_374 (hk_390 qx hv_374.lt (by have hlt9 := hv_374.lt; show ¬ (q_367 ≤ qx); omega))
  have hv_392 : va_at g.1 kCl ((q_1, .inr (0, [.int (nI 0), .int (nI 0), .ref q_14, .ref (q_14 + 1)]))) H_386 := va_at.kept hv_375 (hk_390 q_1 hv_375.lt (by have hlt9 := hv_375.lt; show ¬ (q_367 ≤ q_1); omega))
  have hv_393 : va_at g.1 kCl (cI g q_14 21 ((fun _ => nI 0))) H_386 := va_at.kept hv_376 (hk_390 q_14 hv_376.lt (by have hlt9 := hv_376.lt; show ¬ (q_367 ≤ q_14); omega))
  have hv_394 : va_at g.1 kCl (cI g (q_14 + 1) 21 ((fun _ => nI 0))) H_386 := va_at.kept hv_377 (hk_390 (q_14 + 1) hv_377.lt (by have hlt9 := hv_377.lt; show ¬ (q_367 ≤ q_14 + 1); omega))
  have hv_395 : va_at g.1 kCl ((q_33, .inr (2, [.int (nI 0), .int (nI 8), .int (nI 18), .int (nI 4)]))) H_386 := va_at.kept hv_378 (hk_390 q_33 hv_378.lt (by have hlt9 := hv_378.lt; show ¬ (q_367 ≤ q_33); omega))
  have hv_396 : va_at g.1 kCl ((q_70, .inr (2, [.int (nI 0), .int (nI 8), .int (nI 18), .int (nI 4)]))) H_386 := va_at.kept hv_379 (hk_390 q_70 hv_379.lt (by have hlt9 := hv_379.lt; show ¬ (q_367 ≤ q_70); omega))
  have hv_397 : va_at g.1 kCl (cI g q_110 10 ((fun _ => nI 0))) H_386 := va_at.kept hv_380 (hk_390 q_110 hv_380.lt (by have hlt9 := hv_380.lt; show ¬ (q_367 ≤ q_110); omega))
  have hv_398 : va_at g.1 kCl ((q_180, .inl (g.2.2.2, 4, .inr (.inr (.inr (.inr ((va_up ((va_up ((va_up ((fun _ => none)) 0 (some q_211))) 1 (some q_260))) 2 (some q_312))))))))) H_386 := va_at.kept hv_381 (hk_390 q_180 hv_381.lt (by have hlt9 := hv_381.lt; show ¬ (q_367 ≤ q_180); omega))
  have hSt_399 : va_P g.1 kCl (wS g (k_ad q_137) s_ini ((fun _ => nI 0)) ((fun _ => some q_1))) H_386 := va_P.kept hSt_382 (fun k z hz9 => hk_390 z.1 (hSt_382 k z hz9).lt (by have hlt9 := (hSt_382 k z hz9).lt; have := wS_ad k z hz9; show ¬ (q_367 ≤ z.1); omega))
  have hSt_400 : va_P g.1 kCl (wS g (k_ad q_211) s_ini ((fun _ => nI 0)) ((fun _ => some q_1))) H_386 := va_P.kept hSt_383 (fun k z hz9 => hk_390 z.1 (hSt_383 k z hz9).lt (by have hlt9 := (hSt_383 k z hz9).lt; have := wS_ad k z hz9; show ¬ (q_367 ≤ z.1); omega))
  have hSt_401 : va_P g.1 kCl (wS g (k_ad q_260) s_ini ((fun _ => nI 0)) ((fun _ => some q_1))) H_386 := va_P.kept hSt_384 (fun k z hz9 => hk_390 z.1 (hSt_384 k z hz9).lt (by have hlt9 := (hSt_384 k z hz9).lt; have := wS_ad k z hz9; show ¬ (q_367 ≤ z.1); omega))
  have hSt_402 : va_P g.1 kCl (wS g (k_ad q_312) s_ini ((fun _ => nI 0)) ((fun _ => some q_1))) H_386 := va_P.kept hSt_385 (fun k z hz9 => hk_390 z.1 (hSt_385 k z hz9).lt (by have hlt9 := (hSt_385 k z hz9).lt; have := wS_ad k z hz9; show ¬ (q_367 ≤ z.1); omega))
  obtain ⟨hz_403, hpp_404⟩ := hQ_388
  refine q_astO2 (k := 3) hC hK ((va_one hv_398)) (D1 (A := fun z => qx ≤ z) (show qx ≤ q_180 by omega)) hS_389 0 rfl (hpp_404 0 _ rfl) (by decide) (by decide) dX4_init_91 (fun H_405 locs_406 hP_407 hD_408 hS_409 hz_410 hk_411 => ?_)
  have hv_412 : va_at g.1 kCl ((qx, .inr (4, [.ref q_137, .ref q_180, .int (nI 0), .ref q_1, .ref q_33, .ref q_70, .ref q_110]))) H_405 := va_at.kept hv_391 (hk_411 qx (by omega))
  have hv_413 : va_at g.1 kCl ((q_1, .inr (0, [.int (nI 0), .int (nI 0), .ref q_14, .ref (q_14 + 1)]))) H_405 := va_at.kept hv_392 (hk_411 q_1 (by omega))
  have hv_414 : va_at g.1 kCl (cI g q_14 21 ((fun _ => nI 0))) H_405 := va_at.kept hv_393 (hk_411 q_14 (by omega))
  have hv_415 : va_at g.1 kCl (cI g (q_14 + 1) 21 ((fun _ => nI 0))) H_405 := va_at.kept hv_394 (hk_411 (q_14 + 1) (by omega))
  have hv_416 : va_at g.1 kCl ((q_33, .inr (2, [.int (nI 0), .int (nI 8), .int (nI 18), .int (nI 4)]))) H_405 := va_at.kept hv_395 (hk_411 q_33 (by omega))
  have hv_417 : va_at g.1 kCl ((q_70, .inr (2, [.int (nI 0), .int (nI 8), .int (nI 18), .int (nI 4)]))) H_405 := va_at.kept hv_396 (hk_411 q_70 (by omega))
  have hv_418 : va_at g.1 kCl (cI g q_110 10 ((fun _ => nI 0))) H_405 := va_at.kept hv_397 (hk_411 q_110 (by omega))
  have hv_419 : va_at g.1 kCl ((q_180, .inl (g.2.2.2, 4, .inr (.inr (.inr (.inr ((va_up ((va_up ((va_up ((va_up ((fun _ => none)) 0 (some q_211))) 1 (some q_260))) 2 (some q_312))) 3 (some q_367))))))))) H_405 := hP_407 0 _ rfl
  have hSt_420 : va_P g.1 kCl (wS g (k_ad q_137) s_ini ((fun _ => nI 0)) ((fun _ => some q_1))) H_405 := va_P.kept hSt_399 (fun k z hz9 => hk_411 z.1 (by have := wS_ad k z hz9; omega))
  have hSt_421 : va_P g.1 kCl (wS g (k_ad q_211) s_ini ((fun _ => nI 0)) ((fun _ => some q_1))) H_405 := va_P.kept hSt_400 (fun k z hz9 => hk_411 z.1 (by have := wS_ad k z hz9; omega))
  have hSt_422 : va_P g.1 kCl (wS g (k_ad q_260) s_ini ((fun _ => nI 0)) ((fun _ => some q_1))) H_405 := va_P.kept hSt_401 (fun k z hz9 => hk_411 z.1 (by have := wS_ad k z hz9; omega))
  have hSt_423 : va_P g.1 kCl (wS g (k_ad q_312) s_ini ((fun _ => nI 0)) ((fun _ => some q_1))) H_405 := va_P.kept hSt_402 (fun k z hz9 => hk_411 z.1 (by have := wS_ad k z hz9; omega))
  have hSt_424 : va_P g.1 kCl (wS g (k_ad q_367) s_ini ((fun _ => nI 0)) ((fun _ => some q_1))) H_405 := va_P.kept hpp_404 (fun k z hz9 => hk_411 z.1 (by have := wS_ad k z hz9; omega))
  refine n_iinc (lv' := [(1, .int (nI 4)), (0, .ref qx)]) hC dX4_init_92 hl rfl (by decide) rfl (fun ls hl => ?_)
  refine lv_goto (tgt := 70) hx hb dX4_init_95 (by decide) ?_
  refine lv_iload_n hx hb dX4_init_70 rfl (lvG hl rfl) ?_
  refine lv_iconst (v := nI 4) hx hb dX4_init_71 (by decide) ?_
  refine n_icmp_ge (tgt := 98) hC dX4_init_72 (by decide) (by decide) (by decide) (fun _ => ?_) (fun c => absurd c (by decide))
  refine lv_aload_n hx hb dX4_init_98 rfl (lvG hl rfl) ?_
  refine lv_iconst (v := nI 0) hx hb dX4_init_99 (by decide) ?_
  refine k_putO (ci := 4) (v := .int (nI 0)) (ty := .int) (C := RX4) (T := TX4) (N := 7) hC hK i_X4 tyX4 tyX4_ok nmX4 ((va_one hv_412)) (D1 (A := fun z => qx ≤ z) (show qx ≤ qx by omega)) hS_409 0 rfl rfl 2 (by decide) w_177 (fun _ h9 => h9) rfl (by decide +kernel) rfl rfl (Nat.le_of_ble_eq_true rfl) dX4_init_100 (fun H_425 locs_426 hP_427 hD_428 hS_429 hz_430 hk_431 => ?_)
  have hv_432 : va_at g.1 kCl ((q_1, .inr (0, [.int (nI 0), .int (nI 0), .ref q_14, .ref (q_14 + 1)]))) H_425 := va_at.kept hv_413 (hk_431 q_1 (by omega))
  have hv_433 : va_at g.1 kCl (cI g q_14 21 ((fun _ => nI 0))) H_425 := va_at.kept hv_414 (hk_431 q_14 (by omega))
  have hv_434 : va_at g.1 kCl (cI g (q_14 + 1) 21 ((fun _ => nI 0))) H_425 := va_at.kept hv_415 (hk_431 (q_14 + 1) (by omega))
  have hv_435 : va_at g.1 kCl ((q_33, .inr (2, [.int (nI 0), .int (nI 8), .int (nI 18), .int (nI 4)]))) H_425 := va_at.kept hv_416 (hk_431 q_33 (by omega))
  have hv_436 : va_at g.1 kCl ((q_70, .inr (2, [.int (nI 0), .int (nI 8), .int (nI 18), .int (nI 4)]))) H_425 := va_at.kept hv_417 (hk_431 q_70 (by omega))
  have hv_437 : va_at g.1 kCl (cI g q_110 10 ((fun _ => nI 0))) H_425 := va_at.kept hv_418 (hk_431 q_110 (by omega))
  have hv_438 : va_at g.1 kCl ((q_180, .inl (g.2.2.2, 4, .inr (.inr (.inr (.inr ((va_up ((va_up ((va_up ((va_up ((fun _ => none)) 0 (some q_211))) 1 (some q_260))) 2 (some q_312))) 3 (some q_367))))))))) H_425 := va_at.kept hv_419 (hk_431 q_180 (by omega))
  have hv_439 : va_at g.1 kCl ((qx, .inr (4, [.ref q_137, .ref q_180, .int (nI 0), .ref q_1, .ref q_33, .ref q_70, .ref q_110]))) H_425 := hP_427 0 _ rfl
  have hSt_440 : va_P g.1 kCl (wS g (k_ad q_137) s_ini ((fun _ => nI 0)) ((fun _ => some q_1))) H_425 := va_P.kept hSt_420 (fun k z hz9 => hk_431 z.1 (by have := wS_ad k z hz9; omega))
  have hSt_441 : va_P g.1 kCl (wS g (k_ad q_211) s_ini ((fun _ => nI 0)) ((fun _ => some q_1))) H_425 := va_P.kept hSt_421 (fun k z hz9 => hk_431 z.1 (by have := wS_ad k z hz9; omega))
  have hSt_442 : va_P g.1 kCl (wS g (k_ad q_260) s_ini ((fun _ => nI 0)) ((fun _ => some q_1))) H_425 := va_P.kept hSt_422 (fun k z hz9 => hk_431 z.1 (by have := wS_ad k z hz9; omega))
  have hSt_443 : va_P g.1 kCl (wS g (k_ad q_312) s_ini ((fun _ => nI 0)) ((fun _ => some q_1))) H_425 := va_P.kept hSt_423 (fun k z hz9 => hk_431 z.1 (by have := wS_ad k z hz9; omega))
  have hSt_444 : va_P g.1 kCl (wS g (k_ad q_367) s_ini ((fun _ => nI 0)) ((fun _ => some q_1))) H_425 := va_P.kept hSt_424 (fun k z hz9 => hk_431 z.1 (by have := wS_ad k z hz9; omega))
  have hv_445 : va_at g.1 kCl ((q_180, .inl (g.2.2.2, 4, .inr (.inr (.inr (.inr ((h4 q_211 q_260 q_312 q_367)))))))) H_425 := cH_eq (fun k hk => by rcases (show k = 0 ∨ k = 1 ∨ k = 2 ∨ k = 3 by omega) with q0 | q0 | q0 | q0 <;> subst q0 <;> rfl) hv_438
  have hAll : va_P g.1 kCl ([(qx, .inr (4, [.ref q_137, .ref q_180, .int (nI 0), .ref q_1, .ref q_33, .ref q_70, .ref q_110]))] ++ ([(q_1, .inr (0, [.int (nI 0), .int (nI 0), .ref q_14, .ref (q_14 + 1)]))] ++ ([cI g q_14 21 ((fun _ => nI 0))] ++ ([cI g (q_14 + 1) 21 ((fun _ => nI 0))] ++ ([(q_33, .inr (2, [.int (nI 0), .int (nI 8), .int (nI 18), .int (nI 4)]))] ++ ([(q_70, .inr (2, [.int (nI 0), .int (nI 8), .int (nI 18), .int (nI 4)]))] ++ ([cI g q_110 10 ((fun _ => nI 0))] ++ ((wS g (k_ad q_137) s_ini ((fun _ => nI 0)) ((fun _ => some q_1))) ++ ([(q_180, .inl (g.2.2.2, 4, .inr (.inr (.inr (.inr ((h4 q_211 q_260 q_312 q_367)))))))] ++ ((wS g (k_ad q_211) s_ini ((fun _ => nI 0)) ((fun _ => some q_1))) ++ ((wS g (k_ad q_260) s_ini ((fun _ => nI 0)) ((fun _ => some q_1))) ++ ((wS g (k_ad q_312) s_ini ((fun _ => nI 0)) ((fun _ => some q_1))) ++ (wS g (k_ad q_367) s_ini ((fun _ => nI 0)) ((fun _ => some q_1))))))))))))))) H_425 := (va_P.app (va_one hv_439) (va_P.app (va_one hv_432) (va_P.app (va_one hv_433) (va_P.app (va_one hv_434) (va_P.app (va_one hv_435) (va_P.app (va_one hv_436) (va_P.app (va_one hv_437) (va_P.app hSt_440 (va_P.app (va_one hv_445) (va_P.app hSt_441 (va_P.app hSt_442 (va_P.app hSt_443 hSt_444))))))))))))
  have ez0 : q_1 = qx + 1 := by omega
  have ez1 : q_14 = qx + 2 := by omega
  have ez3 : q_33 = qx + 4 := by omega
  have ez4 : q_70 = qx + 5 := by omega
  have ez5 : q_110 = qx + 6 := by omega
  have ez6 : q_137 = qx + 7 := by omega
  have ez7 : q_180 = qx + 14 := by omega
  have ez8 : q_211 = qx + 15 := by omega
  have ez9 : q_260 = qx + 22 := by omega
  have ez10 : q_312 = qx + 29 := by omega
  have ez11 : q_367 = qx + 36 := by omega
  rw [ez0, ez1, ez3, ez4, ez5, ez6, ez7, ez8, ez9, ez10, ez11] at hAll
  refine W.widen (k := 42) (n := 458) (by omega) (by omega) ?_
  exact k_vretM hC hr hlk hS_429 dX4_init_103 (⟨by omega, XW.init (hAll.sub [0, 14, 7, 8, 9, 10, 11, 12, 13, 1, 15, 16, 17, 18, 19, 20, 21, 22, 23, 24, 25, 26, 27, 28, 29, 30, 31, 32, 33, 34, 35, 36, 37, 38, 39, 40, 41, 42] rfl) (hAll.sub [2, 3, 4, 5, 6] rfl)⟩)
