def k_ad (q : Nat) : Nat → Nat := fun k => q + k
theorem wS_ad {g : kG} {q : Nat} {F d : Nat → Int32} {r : Nat → Option Nat} : ∀ (k : Nat) (z : Nat × va_E), (wS g (k_ad q) F d r)[k]? = some z → q ≤ z.1 ∧ z.1 < q + 7 := fun k z hz => by
  match k, hz with
  | 0, hz => cases hz; exact ⟨Nat.le_add_right _ _, by show q + 0 < q + 7; omega⟩
  | 1, hz => cases hz; exact ⟨Nat.le_add_right _ _, by show q + 6 < q + 7; omega⟩
  | 2, hz => cases hz; exact ⟨Nat.le_add_right _ _, by show q + 1 < q + 7; omega⟩
  | 3, hz => cases hz; exact ⟨Nat.le_add_right _ _, by show q + 2 < q + 7; omega⟩
  | 4, hz => cases hz; exact ⟨Nat.le_add_right _ _, by show q + 3 < q + 7; omega⟩
  | 5, hz => cases hz; exact ⟨Nat.le_add_right _ _, by show q + 4 < q + 7; omega⟩
  | 6, hz => cases hz; exact ⟨Nat.le_add_right _ _, by show q + 5 < q + 7; omega⟩
  | k + 7, hz => simp at hz
theorem L_X3_X2_init : LnkI RX3 38 yX2_init cX2_init 1 0 := ⟨w_92, w_65, rfl, w_27, w_66, ⟨by decide +kernel, by decide +kernel⟩, by decide +kernel⟩
theorem L_X3_X1_init : LnkI RX3 48 yX1_init cX1_init 1 0 := ⟨w_95, w_96, rfl, w_29, w_97, ⟨by decide +kernel, by decide +kernel⟩, by decide +kernel⟩
set_option maxHeartbeats 4000000 in
set_option maxRecDepth 100000 in
theorem c_X3_init (l : Launch) (g : kG) (qc : Nat) (qf : Nat) (vsf : List Value) (hqf : qf < qc) : MV l yX3_init cX3_init 3 none (rc 2 34 6 65) [.ref qc, .ref qf] ((fun H => H.size = qc + 1 ∧ va_at g.1 kCl (qc, .inr (3, [.int (nI 0), .int (nI 0), .int (nI 0), .int (nI 0), .int (nI 0), .int (nI 0), .int (nI 0), .int (nI 0), .null, .null, .null, .null, .int (nI 0)])) H ∧ va_at g.1 kCl (qf, .inr (0, vsf)) H)) g 6 65 (fun z => qc ≤ z) (fun H1 => H1.size = qc + 7 ∧ va_P g.1 kCl (wS g (k_ad qc) s_ini (fun _ => nI 0) (fun _ => some qf)) H1) := by
  refine kOf (by decide) (Nat.le_of_ble_eq_true rfl) (fun p e s m below meth c ls hC hr hlk hin hK hP hl => ?_)
  have hx := hC.1
  have hb := hC.2.1
  have hml := hC.2.2.1
  have hown := hC.2.2.2.1
  have hts := hC.2.2.2.2
  have hl : lv_has ls 3 [(0, .ref qc), (1, .ref qf)] := hl
  obtain ⟨hsz, hv0, hv1⟩ := hP
  have hS : va_S (fun z => qc ≤ z) s.heap s.heap [] := va_S.rf
  refine lv_aload_n hx hb dX3_init_0 rfl (lvG hl rfl) ?_
  refine W.objInit hx hb hown (hts _ w_90) (hts _ w_38) (hts _ w_39) rfl (by rw [hml]; exact hl.1) rfl dX3_init_1 (Nat.le_of_ble_eq_true rfl) (Nat.le_of_ble_eq_true rfl) ?_
  refine W.eq (g2 := F0 m 4 ls []) rfl ?_
  refine lv_aload_n hx hb dX3_init_4 rfl (lvG hl rfl) ?_
  refine lv_iconst (v := nI 2) hx hb dX3_init_5 (by decide) ?_
  refine k_putO (ci := 3) (v := .int (nI 2)) (ty := .int) (C := RX3) (T := TX3) (N := 13) hC hK i_X3 tyX3 tyX3_ok nmX3 ((va_one hv0)) (D1 (A := fun z => qc ≤ z) (show qc ≤ qc by omega)) hS 0 rfl rfl 0 (by decide) w_122 (fun _ h9 => h9) rfl (by decide +kernel) rfl rfl (Nat.le_of_ble_eq_true rfl) dX3_init_6 (fun H_1 locs_2 hP_3 hD_4 hS_5 hz_6 hk_7 => ?_)
  have hv_8 : va_at g.1 kCl ((qf, .inr (0, vsf))) H_1 := va_at.kept hv1 (hk_7 qf (by omega))
  have hv_9 : va_at g.1 kCl ((qc, .inr (3, [.int (nI 2), .int (nI 0), .int (nI 0), .int (nI 0), .int (nI 0), .int (nI 0), .int (nI 0), .int (nI 0), .null, .null, .null, .null, .int (nI 0)]))) H_1 := hP_3 0 _ rfl
  refine lv_aload_n hx hb dX3_init_9 rfl (lvG hl rfl) ?_
  refine lv_sipush (v := nI 1000) hx hb dX3_init_10 (by decide) ?_
  refine k_putO (ci := 3) (v := .int (nI 1000)) (ty := .int) (C := RX3) (T := TX3) (N := 13) hC hK i_X3 tyX3 tyX3_ok nmX3 ((va_one hv_9)) (D1 (A := fun z => qc ≤ z) (show qc ≤ qc by omega)) hS_5 0 rfl rfl 1 (by decide) w_124 (fun _ h9 => h9) rfl (by decide +kernel) rfl rfl (Nat.le_of_ble_eq_true rfl) dX3_init_13 (fun H_10 locs_11 hP_12 hD_13 hS_14 hz_15 hk_16 => ?_)
  have hv_17 : va_at g.1 kCl ((qf, .inr (0, vsf))) H_10 := va_at.kept hv_8 (hk_16 qf (by omega))
  have hv_18 : va_at g.1 kCl ((qc, .inr (3, [.int (nI 2), .int (nI 1000), .int (nI 0), .int (nI 0), .int (nI 0), .int (nI 0), .int (nI 0), .int (nI 0), .null, .null, .null, .null, .int (nI 0)]))) H_10 := hP_12 0 _ rfl
  refine lv_aload_n hx hb dX3_init_16 rfl (lvG hl rfl) ?_
  refine lv_sipush (v := nI 900) hx hb dX3_init_17 (by decide) ?_
  refine k_putO (ci := 3) (v := .int (nI 900)) (ty := .int) (C := RX3) (T := TX3) (N := 13) hC hK i_X3 tyX3 tyX3_ok nmX3 ((va_one hv_18)) (D1 (A := fun z => qc ≤ z) (show qc ≤ qc by omega)) hS_14 0 rfl rfl 2 (by decide) w_126 (fun _ h9 => h9) rfl (by decide +kernel) rfl rfl (Nat.le_of_ble_eq_true rfl) dX3_init_20 (fun H_19 locs_20 hP_21 hD_22 hS_23 hz_24 hk_25 => ?_)
  have hv_26 : va_at g.1 kCl ((qf, .inr (0, vsf))) H_19 := va_at.kept hv_17 (hk_25 qf (by omega))
  have hv_27 : va_at g.1 kCl ((qc, .inr (3, [.int (nI 2), .int (nI 1000), .int (nI 900), .int (nI 0), .int (nI 0), .int (nI 0), .int (nI 0), .int (nI 0), .null, .null, .null, .null, .int (nI 0)]))) H_19 := hP_21 0 _ rfl
  refine lv_aload_n hx hb dX3_init_23 rfl (lvG hl rfl) ?_
  refine lv_bipush (v := nI 60) hx hb dX3_init_24 (by decide) ?_
  refine k_putO (ci := 3) (v := .int (nI 60)) (ty := .int) (C := RX3) (T := TX3) (N := 13) hC hK i_X3 tyX3 tyX3_ok nmX3 ((va_one hv_27)) (D1 (A := fun z => qc ≤ z) (show qc ≤ qc by omega)) hS_23 0 rfl rfl 3 (by decide) w_128 (fun _ h9 => h9) rfl (by decide +kernel) rfl rfl (Nat.le_of_ble_eq_true rfl) dX3_init_26 (fun H_28 locs_29 hP_30 hD_31 hS_32 hz_33 hk_34 => ?_)
  have hv_35 : va_at g.1 kCl ((qf, .inr (0, vsf))) H_28 := va_at.kept hv_26 (hk_34 qf (by omega))
  have hv_36 : va_at g.1 kCl ((qc, .inr (3, [.int (nI 2), .int (nI 1000), .int (nI 900), .int (nI 60), .int (nI 0), .int (nI 0), .int (nI 0), .int (nI 0), .null, .null, .null, .null, .int (nI 0)]))) H_28 := hP_30 0 _ rfl
  refine lv_aload_n hx hb dX3_init_29 rfl (lvG hl rfl) ?_
  refine lv_sipush (v := nI 800) hx hb dX3_init_30 (by decide) ?_
  refine k_putO (ci := 3) (v := .int (nI 800)) (ty := .int) (C := RX3) (T := TX3) (N := 13) hC hK i_X3 tyX3 tyX3_ok nmX3 ((va_one hv_36)) (D1 (A := fun z => qc ≤ z) (show qc ≤ qc by omega)) hS_32 0 rfl rfl 4 (by decide) w_130 (fun _ h9 => h9) rfl (by decide +kernel) rfl rfl (Nat.le_of_ble_eq_true rfl) dX3_init_33 (fun H_37 locs_38 hP_39 hD_40 hS_41 hz_42 hk_43 => ?_)
  have hv_44 : va_at g.1 kCl ((qf, .inr (0, vsf))) H_37 := va_at.kept hv_35 (hk_43 qf (by omega))
  have hv_45 : va_at g.1 kCl ((qc, .inr (3, [.int (nI 2), .int (nI 1000), .int (nI 900), .int (nI 60), .int (nI 800), .int (nI 0), .int (nI 0), .int (nI 0), .null, .null, .null, .null, .int (nI 0)]))) H_37 := hP_39 0 _ rfl
  refine lv_aload_n hx hb dX3_init_36 rfl (lvG hl rfl) ?_
  refine lv_bipush (v := nI 50) hx hb dX3_init_37 (by decide) ?_
  refine k_putO (ci := 3) (v := .int (nI 50)) (ty := .int) (C := RX3) (T := TX3) (N := 13) hC hK i_X3 tyX3 tyX3_ok nmX3 ((va_one hv_45)) (D1 (A := fun z => qc ≤ z) (show qc ≤ qc by omega)) hS_41 0 rfl rfl 5 (by decide) w_132 (fun _ h9 => h9) rfl (by decide +kernel) rfl rfl (Nat.le_of_ble_eq_true rfl) dX3_init_39 (fun H_46 locs_47 hP_48 hD_49 hS_50 hz_51 hk_52 => ?_)
  have hv_53 : va_at g.1 kCl ((qf, .inr (0, vsf))) H_46 := va_at.kept hv_44 (hk_52 qf (by omega))
  have hv_54 : va_at g.1 kCl ((qc, .inr (3, [.int (nI 2), .int (nI 1000), .int (nI 900), .int (nI 60), .int (nI 800), .int (nI 50), .int (nI 0), .int (nI 0), .null, .null, .null, .null, .int (nI 0)]))) H_46 := hP_48 0 _ rfl
  refine lv_aload_n hx hb dX3_init_42 rfl (lvG hl rfl) ?_
  refine lv_bipush (v := nI 10) hx hb dX3_init_43 (by decide) ?_
  refine k_putO (ci := 3) (v := .int (nI 10)) (ty := .int) (C := RX3) (T := TX3) (N := 13) hC hK i_X3 tyX3 tyX3_ok nmX3 ((va_one hv_54)) (D1 (A := fun z => qc ≤ z) (show qc ≤ qc by omega)) hS_50 0 rfl rfl 6 (by decide) w_134 (fun _ h9 => h9) rfl (by decide +kernel) rfl rfl (Nat.le_of_ble_eq_true rfl) dX3_init_45 (fun H_55 locs_56 hP_57 hD_58 hS_59 hz_60 hk_61 => ?_)
  have hv_62 : va_at g.1 kCl ((qf, .inr (0, vsf))) H_55 := va_at.kept hv_53 (hk_61 qf (by omega))
  have hv_63 : va_at g.1 kCl ((qc, .inr (3, [.int (nI 2), .int (nI 1000), .int (nI 900), .int (nI 60), .int (nI 800), .int (nI 50), .int (nI 10), .int (nI 0), .null, .null, .null, .null, .int (nI 0)]))) H_55 := hP_57 0 _ rfl
  refine lv_aload_n hx hb dX3_init_48 rfl (lvG hl rfl) ?_
  refine lv_iconst (v := nI 5) hx hb dX3_init_49 (by decide) ?_
  refine k_putO (ci := 3) (v := .int (nI 5)) (ty := .int) (C := RX3) (T := TX3) (N := 13) hC hK i_X3 tyX3 tyX3_ok nmX3 ((va_one hv_63)) (D1 (A := fun z => qc ≤ z) (show qc ≤ qc by omega)) hS_59 0 rfl rfl 7 (by decide) w_136 (fun _ h9 => h9) rfl (by decide +kernel) rfl rfl (Nat.le_of_ble_eq_true rfl) dX3_init_50 (fun H_64 locs_65 hP_66 hD_67 hS_68 hz_69 hk_70 => ?_)
  have hv_71 : va_at g.1 kCl ((qf, .inr (0, vsf))) H_64 := va_at.kept hv_62 (hk_70 qf (by omega))
  have hv_72 : va_at g.1 kCl ((qc, .inr (3, [.int (nI 2), .int (nI 1000), .int (nI 900), .int (nI 60), .int (nI 800), .int (nI 50), .int (nI 10), .int (nI 5), .null, .null, .null, .null, .int (nI 0)]))) H_64 := hP_66 0 _ rfl
  refine lv_aload_n hx hb dX3_init_53 rfl (lvG hl rfl) ?_
  refine k_newO (ci := 2) (fs := [.int (nI 0), .int (nI 0), .int (nI 0), .int (nI 0)]) (C := RX2) (T := TX2) (N := 4) hC hK i_X2 tyX2 tyX2_ok w_91 w_63 w_27 hS_68 rfl (by exact bl_X2) (Nat.le_of_ble_eq_true rfl) (Nat.le_of_ble_eq_true rfl) dX3_init_54 (fun q_73 H_74 eq_75 hv_76 hz_77 hk_78 hS_79 => ?_)
  have hv_80 : va_at g.1 kCl ((qc, .inr (3, [.int (nI 2), .int (nI 1000), .int (nI 900), .int (nI 60), .int (nI 800), .int (nI 50), .int (nI 10), .int (nI 5), .null, .null, .null, .null, .int (nI 0)]))) H_74 := va_at.kept hv_72 (hk_78 _ hv_72.lt)
  have hv_81 : va_at g.1 kCl ((qf, .inr (0, vsf))) H_74 := va_at.kept hv_71 (hk_78 _ hv_71.lt)
  refine lv_dup hx hb dX3_init_57 rfl ?_
  refine k_callMV0 (k_goI (rest := [.ref q_73, .ref qc]) hC hK (c_X2_init l g q_73 (H_74.size)) L_X3_X2_init (⟨⟨Nat.le_of_ble_eq_true rfl, Nat.le_of_ble_eq_true rfl⟩, ⟨rfl, rfl⟩, ⟨Nat.le_of_ble_eq_true rfl, Nat.le_of_ble_eq_true rfl⟩⟩) (⟨rfl, hv_76⟩) rfl hl.1 rfl (Nat.le_of_ble_eq_true rfl) dX3_init_58) hS_79 (fun z hz9 => by have hz8 : z = q_73 := hz9; show qc ≤ z; omega) (fun H_82 locs_83 hQ_84 hz_ hk_86 hS_85 => ?_)
  obtain ⟨q_87, eq_88⟩ : ∃ z, z = Array.size H_74 := ⟨_, rfl⟩
  have hv_89 : va_at g.1 kCl ((qc, .inr (3, [.int (nI 2), .int (nI 1000), .int (nI 900), .int (nI 60), .int (nI 800), .int (nI 50), .int (nI 10), .int (nI 5), .null, .null, .null, .null, .int (nI 0)]))) H_82 := va_at.kept hv_80 (hk_86 qc hv_80.lt (by have hlt9 := hv_80.lt; show ¬ (qc = q_73); omega))
  have hv_90 : va_at g.1 kCl ((qf, .inr (0, vsf))) H_82 := va_at.kept hv_81 (hk_86 qf hv_81.lt (by have hlt9 := hv_81.lt; show ¬ (qf = q_73); omega))
  obtain ⟨hz_91, hpp_92⟩ := hQ_84
  have hv_93 : va_at g.1 kCl ((q_73, .inr (2, [.int (nI 0), .int (nI 8), .int (nI 18), .int (nI 4)]))) H_82 := hpp_92 0 _ rfl
  refine k_putFO (ci := 3) (v := .ref q_73) (ty := .object RX2) (C := RX3) (T := TX3) (N := 13) hC hK i_X3 tyX3 tyX3_ok nmX3 ((va_one hv_89)) (D1 (A := fun z => qc ≤ z) (show qc ≤ qc by omega)) hS_85 0 rfl rfl 8 (by decide) w_138 (fun _ h9 => h9) rfl hin rfl (by decide +kernel) rfl rfl (Nat.le_of_ble_eq_true rfl) dX3_init_61 (fun H_94 locs_95 hP_96 hD_97 hS_98 hz_99 hk_100 => ?_)
  have hv_101 : va_at g.1 kCl ((qf, .inr (0, vsf))) H_94 := va_at.kept hv_90 (hk_100 qf (by omega))
  have hv_102 : va_at g.1 kCl ((q_73, .inr (2, [.int (nI 0), .int (nI 8), .int (nI 18), .int (nI 4)]))) H_94 := va_at.kept hv_93 (hk_100 q_73 (by omega))
  have hv_103 : va_at g.1 kCl ((qc, .inr (3, [.int (nI 2), .int (nI 1000), .int (nI 900), .int (nI 60), .int (nI 800), .int (nI 50), .int (nI 10), .int (nI 5), .ref q_73, .null, .null, .null, .int (nI 0)]))) H_94 := hP_96 0 _ rfl
  refine lv_aload_n hx hb dX3_init_64 rfl (lvG hl rfl) ?_
  refine k_newO (ci := 2) (fs := [.int (nI 0), .int (nI 0), .int (nI 0), .int (nI 0)]) (C := RX2) (T := TX2) (N := 4) hC hK i_X2 tyX2 tyX2_ok w_91 w_63 w_27 hS_98 rfl (by exact bl_X2) (Nat.le_of_ble_eq_true rfl) (Nat.le_of_ble_eq_true rfl) dX3_init_65 (fun q_104 H_105 eq_106 hv_107 hz_108 hk_109 hS_110 => ?_)
  have hv_111 : va_at g.1 kCl ((qc, .inr (3, [.int (nI 2), .int (nI 1000), .int (nI 900), .int (nI 60), .int (nI 800), .int (nI 50), .int (nI 10), .int (nI 5), .ref q_73, .null, .null, .null, .int (nI 0)]))) H_105 := va_at.kept hv_103 (hk_109 _ hv_103.lt)
  have hv_112 : va_at g.1 kCl ((qf, .inr (0, vsf))) H_105 := va_at.kept hv_101 (hk_109 _ hv_101.lt)
  have hv_113 : va_at g.1 kCl ((q_73, .inr (2, [.int (nI 0), .int (nI 8), .int (nI 18), .int (nI 4)]))) H_105 := va_at.kept hv_102 (hk_109 _ hv_102.lt)
  refine lv_dup hx hb dX3_init_68 rfl ?_
  refine k_callMV0 (k_goI (rest := [.ref q_104, .ref qc]) hC hK (c_X2_init l g q_104 (H_105.size)) L_X3_X2_init (⟨⟨Nat.le_of_ble_eq_true rfl, Nat.le_of_ble_eq_true rfl⟩, ⟨rfl, rfl⟩, ⟨Nat.le_of_ble_eq_true rfl, Nat.le_of_ble_eq_true rfl⟩⟩) (⟨rfl, hv_107⟩) rfl hl.1 rfl (Nat.le_of_ble_eq_true rfl) dX3_init_69) hS_110 (fun z hz9 => by have hz8 : z = q_104 := hz9; show qc ≤ z; omega) (fun H_114 locs_115 hQ_116 hz_ hk_118 hS_117 => ?_)
  obtain ⟨q_119, eq_120⟩ : ∃ z, z = Array.size H_105 := ⟨_, rfl⟩
  have hv_121 : va_at g.1 kCl ((qc, .inr (3, [.int (nI 2), .int (nI 1000), .int (nI 900), .int (nI 60), .int (nI 800), .int (nI 50), .int (nI 10), .int (nI 5), .ref q_73, .null, .null, .null, .int (nI 0)]))) H_114 := va_at.kept hv_111 (hk_118 qc hv_111.lt (by have hlt9 := hv_111.lt; show ¬ (qc = q_104); omega))
  have hv_122 : va_at g.1 kCl ((qf, .inr (0, vsf))) H_114 := va_at.kept hv_112 (hk_118 qf hv_112.lt (by have hlt9 := hv_112.lt; show ¬ (qf = q_104); omega))
  have hv_123 : va_at g.1 kCl ((q_73, .inr (2, [.int (nI 0), .int (nI 8), .int (nI 18), .int (nI 4)]))) H_114 := va_at.kept hv_113 (hk_118 q_73 hv_113.lt (by have hlt9 := hv_113.lt; show ¬ (q_73 = q_104); omega))
  obtain ⟨hz_124, hpp_125⟩ := hQ_116
  have hv_126 : va_at g.1 kCl ((q_104, .inr (2, [.int (nI 0), .int (nI 8), .int (nI 18), .int (nI 4)]))) H_114 := hpp_125 0 _ rfl
  refine k_putFO (ci := 3) (v := .ref q_104) (ty := .object RX2) (C := RX3) (T := TX3) (N := 13) hC hK i_X3 tyX3 tyX3_ok nmX3 ((va_one hv_121)) (D1 (A := fun z => qc ≤ z) (show qc ≤ qc by omega)) hS_117 0 rfl rfl 9 (by decide) w_140 (fun _ h9 => h9) rfl hin rfl (by decide +kernel) rfl rfl (Nat.le_of_ble_eq_true rfl) dX3_init_72 (fun H_127 locs_128 hP_129 hD_130 hS_131 hz_132 hk_133 => ?_)
  have hv_134 : va_at g.1 kCl ((qf, .inr (0, vsf))) H_127 := va_at.kept hv_122 (hk_133 qf (by omega))
  have hv_135 : va_at g.1 kCl ((q_73, .inr (2, [.int (nI 0), .int (nI 8), .int (nI 18), .int (nI 4)]))) H_127 := va_at.kept hv_123 (hk_133 q_73 (by omega))
  have hv_136 : va_at g.1 kCl ((q_104, .inr (2, [.int (nI 0), .int (nI 8), .int (nI 18), .int (nI 4)]))) H_127 := va_at.kept hv_126 (hk_133 q_104 (by omega))
  have hv_137 : va_at g.1 kCl ((qc, .inr (3, [.int (nI 2), .int (nI 1000), .int (nI 900), .int (nI 60), .int (nI 800), .int (nI 50), .int (nI 10), .int (nI 5), .ref q_73, .ref q_104, .null, .null, .int (nI 0)]))) H_127 := hP_129 0 _ rfl
  refine lv_aload_n hx hb dX3_init_75 rfl (lvG hl rfl) ?_
  refine k_newO (ci := 1) (fs := [.int (nI 0), .int (nI 0), .int (nI 0), .null, .null]) (C := RX1) (T := TX1) (N := 5) hC hK i_X1 tyX1 tyX1_ok w_93 w_94 w_29 hS_131 rfl (by exact bl_X1) (Nat.le_of_ble_eq_true rfl) (Nat.le_of_ble_eq_true rfl) dX3_init_76 (fun q_138 H_139 eq_140 hv_141 hz_142 hk_143 hS_144 => ?_)
  have hv_145 : va_at g.1 kCl ((qc, .inr (3, [.int (nI 2), .int (nI 1000), .int (nI 900), .int (nI 60), .int (nI 800), .int (nI 50), .int (nI 10), .int (nI 5), .ref q_73, .ref q_104, .null, .null, .int (nI 0)]))) H_139 := va_at.kept hv_137 (hk_143 _ hv_137.lt)
  have hv_146 : va_at g.1 kCl ((qf, .inr (0, vsf))) H_139 := va_at.kept hv_134 (hk_143 _ hv_134.lt)
  have hv_147 : va_at g.1 kCl ((q_73, .inr (2, [.int (nI 0), .int (nI 8), .int (nI 18), .int (nI 4)]))) H_139 := va_at.kept hv_135 (hk_143 _ hv_135.lt)
  have hv_148 : va_at g.1 kCl ((q_104, .inr (2, [.int (nI 0), .int (nI 8), .int (nI 18), .int (nI 4)]))) H_139 := va_at.kept hv_136 (hk_143 _ hv_136.lt)
  refine lv_dup hx hb dX3_init_79 rfl ?_
  refine k_callMV (k_goI (rest := [.ref q_138, .ref qc]) hC hK (c_X1_init l g q_138 (H_139.size)) L_X3_X1_init (⟨⟨Nat.le_of_ble_eq_true rfl, Nat.le_of_ble_eq_true rfl⟩, ⟨rfl, rfl⟩, ⟨Nat.le_of_ble_eq_true rfl, Nat.le_of_ble_eq_true rfl⟩⟩) (⟨rfl, hv_141⟩) rfl hl.1 rfl (Nat.le_of_ble_eq_true rfl) dX3_init_80) hS_144 (fun z hz9 => by have hz8 : z = q_138 ∨ H_139.size ≤ z := hz9; show qc ≤ z; omega) (fun H_149 locs_150 hQ_151 hz_ hk_153 hS_152 => ?_)
  obtain ⟨q_154, eq_155⟩ : ∃ z, z = Array.size H_139 := ⟨_, rfl⟩
  have hv_156 : va_at g.1 kCl ((qc, .inr (3, [.int (nI 2), .int (nI 1000), .int (nI 900), .int (nI 60), .int (nI 800), .int (nI 50), .int (nI 10), .int (nI 5), .ref q_73, .ref q_104, .null, .null, .int (nI 0)]))) H_149 := va_at.kept hv_145 (hk_153 qc hv_145.lt (by have hlt9 := hv_145.lt; show ¬ (qc = q_138 ∨ Array.size H_139 ≤ qc); omega))
  have hv_157 : va_at g.1 kCl ((qf, .inr (0, vsf))) H_149 := va_at.kept hv_146 (hk_153 qf hv_146.lt (by have hlt9 := hv_146.lt; show ¬ (qf = q_138 ∨ Array.size H_139 ≤ qf); omega))
  have hv_158 : va_at g.1 kCl ((q_73, .inr (2, [.int (nI 0), .int (nI 8), .int (nI 18), .int (nI 4)]))) H_149 := va_at.kept hv_147 (hk_153 q_73 hv_147.lt (by have hlt9 := hv_147.lt; show ¬ (q_73 = q_138 ∨ Array.size H_139 ≤ q_73); omega))
  have hv_159 : va_at g.1 kCl ((q_104, .inr (2, [.int (nI 0), .int (nI 8), .int (nI 18), .int (nI 4)]))) H_149 := va_at.kept hv_148 (hk_153 q_104 hv_148.lt (by have hlt9 := hv_148.lt; show ¬ (q_104 = q_138 ∨ Array.size H_139 ≤ q_104); omega))
  rw [← eq_155] at hQ_151
  obtain ⟨hz_160, hpp_161⟩ := hQ_151
  have hv_162 : va_at g.1 kCl ((q_138, .inr (1, [.int (nI 0), .int (nI 0), .int (nI 0), .ref q_154, .ref (q_154 + 1)]))) H_149 := hpp_161 0 _ rfl
  have hv_163 : va_at g.1 kCl (cI g q_154 21 ((fun _ => nI 0))) H_149 := hpp_161 1 _ rfl
  have hv_164 : va_at g.1 kCl (cI g (q_154 + 1) 21 ((fun _ => nI 0))) H_149 := hpp_161 2 _ rfl
  refine k_putFO (ci := 3) (v := .ref q_138) (ty := .object RX1) (C := RX3) (T := TX3) (N := 13) hC hK i_X3 tyX3 tyX3_ok nmX3 ((va_one hv_156)) (D1 (A := fun z => qc ≤ z) (show qc ≤ qc by omega)) hS_152 0 rfl rfl 10 (by decide) w_141 (fun _ h9 => h9) rfl hin rfl (by decide +kernel) rfl rfl (Nat.le_of_ble_eq_true rfl) dX3_init_83 (fun H_165 locs_166 hP_167 hD_168 hS_169 hz_170 hk_171 => ?_)
  have hv_172 : va_at g.1 kCl ((qf, .inr (0, vsf))) H_165 := va_at.kept hv_157 (hk_171 qf (by omega))
  have hv_173 : va_at g.1 kCl ((q_73, .inr (2, [.int (nI 0), .int (nI 8), .int (nI 18), .int (nI 4)]))) H_165 := va_at.kept hv_158 (hk_171 q_73 (by omega))
  have hv_174 : va_at g.1 kCl ((q_104, .inr (2, [.int (nI 0), .int (nI 8), .int (nI 18), .int (nI 4)]))) H_165 := va_at.kept hv_159 (hk_171 q_104 (by omega))
  have hv_175 : va_at g.1 kCl ((q_138, .inr (1, [.int (nI 0), .int (nI 0), .int (nI 0), .ref q_154, .ref (q_154 + 1)]))) H_165 := va_at.kept hv_162 (hk_171 q_138 (by omega))
  have hv_176 : va_at g.1 kCl (cI g q_154 21 ((fun _ => nI 0))) H_165 := va_at.kept hv_163 (hk_171 q_154 (by omega))
  have hv_177 : va_at g.1 kCl (cI g (q_154 + 1) 21 ((fun _ => nI 0))) H_165 := va_at.kept hv_164 (hk_171 (q_154 + 1) (by omega))
  have hv_178 : va_at g.1 kCl ((qc, .inr (3, [.int (nI 2), .int (nI 1000), .int (nI 900), .int (nI 60), .int (nI 800), .int (nI 50), .int (nI 10), .int (nI 5), .ref q_73, .ref q_104, .ref q_138, .null, .int (nI 0)]))) H_165 := hP_167 0 _ rfl
  refine lv_aload_n hx hb dX3_init_86 rfl (lvG hl rfl) ?_
  refine lv_bipush (v := nI 10) hx hb dX3_init_87 (by decide) ?_
  refine k_newqO (n := 10) hC hK 1 rfl hK.2.2.2.1 w_120 hS_169 (by decide) (Nat.le_of_ble_eq_true rfl) (Nat.le_of_ble_eq_true rfl) dX3_init_89 (fun q_179 H_180 eq_181 hv_182 hz_183 hk_184 hS_185 => ?_)
  have hv_186 : va_at g.1 kCl ((qc, .inr (3, [.int (nI 2), .int (nI 1000), .int (nI 900), .int (nI 60), .int (nI 800), .int (nI 50), .int (nI 10), .int (nI 5), .ref q_73, .ref q_104, .ref q_138, .null, .int (nI 0)]))) H_180 := va_at.kept hv_178 (hk_184 _ hv_178.lt)
  have hv_187 : va_at g.1 kCl ((qf, .inr (0, vsf))) H_180 := va_at.kept hv_172 (hk_184 _ hv_172.lt)
  have hv_188 : va_at g.1 kCl ((q_73, .inr (2, [.int (nI 0), .int (nI 8), .int (nI 18), .int (nI 4)]))) H_180 := va_at.kept hv_173 (hk_184 _ hv_173.lt)
  have hv_189 : va_at g.1 kCl ((q_104, .inr (2, [.int (nI 0), .int (nI 8), .int (nI 18), .int (nI 4)]))) H_180 := va_at.kept hv_174 (hk_184 _ hv_174.lt)
  have hv_190 : va_at g.1 kCl ((q_138, .inr (1, [.int (nI 0), .int (nI 0), .int (nI 0), .ref q_154, .ref (q_154 + 1)]))) H_180 := va_at.kept hv_175 (hk_184 _ hv_175.lt)
  have hv_191 : va_at g.1 kCl (cI g q_154 21 ((fun _ => nI 0))) H_180 := va_at.kept hv_176 (hk_184 _ hv_176.lt)
  have hv_192 : va_at g.1 kCl (cI g (q_154 + 1) 21 ((fun _ => nI 0))) H_180 := va_at.kept hv_177 (hk_184 _ hv_177.lt)
  refine k_putFO (ci := 3) (v := .ref q_179) (ty := .array (.object RX0)) (C := RX3) (T := TX3) (N := 13) hC hK i_X3 tyX3 tyX3_ok nmX3 ((va_one hv_186)) (D1 (A := fun z => qc ≤ z) (show qc ≤ qc by omega)) hS_185 0 rfl rfl 11 (by decide) w_143 (fun _ h9 => h9) rfl hin rfl (by decide +kernel) rfl rfl (Nat.le_of_ble_eq_true rfl) dX3_init_92 (fun H_193 locs_194 hP_195 hD_196 hS_197 hz_198 hk_199 => ?_)
  have hv_200 : va_at g.1 kCl ((qf, .inr (0, vsf))) H_193 := va_at.kept hv_187 (hk_199 qf (by omega))
  have hv_201 : va_at g.1 kCl ((q_73, .inr (2, [.int (nI 0), .int (nI 8), .int (nI 18), .int (nI 4)]))) H_193 := va_at.kept hv_188 (hk_199 q_73 (by omega))
  have hv_202 : va_at g.1 kCl ((q_104, .inr (2, [.int (nI 0), .int (nI 8), .int (nI 18), .int (nI 4)]))) H_193 := va_at.kept hv_189 (hk_199 q_104 (by omega))
  have hv_203 : va_at g.1 kCl ((q_138, .inr (1, [.int (nI 0), .int (nI 0), .int (nI 0), .ref q_154, .ref (q_154 + 1)]))) H_193 := va_at.kept hv_190 (hk_199 q_138 (by omega))
  have hv_204 : va_at g.1 kCl (cI g q_154 21 ((fun _ => nI 0))) H_193 := va_at.kept hv_191 (hk_199 q_154 (by omega))
  have hv_205 : va_at g.1 kCl (cI g (q_154 + 1) 21 ((fun _ => nI 0))) H_193 := va_at.kept hv_192 (hk_199 (q_154 + 1) (by omega))
  have hv_206 : va_at g.1 kCl ((q_179, .inl (g.2.2.1, 10, .inr (.inr (.inr (.inr ((fun _ => none)))))))) H_193 := va_at.kept hv_182 (hk_199 q_179 (by omega))
  have hv_207 : va_at g.1 kCl ((qc, .inr (3, [.int (nI 2), .int (nI 1000), .int (nI 900), .int (nI 60), .int (nI 800), .int (nI 50), .int (nI 10), .int (nI 5), .ref q_73, .ref q_104, .ref q_138, .ref q_179, .int (nI 0)]))) H_193 := hP_195 0 _ rfl
  refine lv_iconst (v := nI 0) hx hb dX3_init_95 (by decide) ?_
  refine lv_istore_n (lv' := [(2, .int (nI 0)), (0, .ref qc), (1, .ref qf)]) hx hb dX3_init_96 rfl hl (by decide) rfl (fun ls hl => ?_)
  refine lv_iload_n hx hb dX3_init_97 rfl (lvG hl rfl) ?_
  refine lv_bipush (v := nI 10) hx hb dX3_init_98 (by decide) ?_
  refine n_icmp_ge (tgt := 116) hC dX3_init_100 (by decide) (by decide) (by decide) (fun c => absurd c (by decide)) (fun _ => ?_)
  refine lv_aload_n hx hb dX3_init_103 rfl (lvG hl rfl) ?_
  refine va_get (D := g.1) (ci := 3) (v := .ref q_179) (C := RX3) (T := TX3) (N := 13) hx hb hts i_X3 hown hK.1 ((va_one hv_207)) 0 rfl rfl 11 (by decide) (hts _ w_143) (fun _ h9 => h9) rfl dX3_init_104 ?_
  refine lv_iload_n hx hb dX3_init_107 rfl (lvG hl rfl) ?_
  refine lv_aload_n hx hb dX3_init_108 rfl (lvG hl rfl) ?_
  refine q_astO (k := 0) hC hK ((va_one hv_206)) (D1 (A := fun z => qc ≤ z) (show qc ≤ q_179 by omega)) hS_197 0 rfl hv_200 (by decide) (by decide) dX3_init_109 (fun H_208 locs_209 hP_210 hD_211 hS_212 hz_213 hk_214 => ?_)
  have hv_215 : va_at g.1 kCl ((qc, .inr (3, [.int (nI 2), .int (nI 1000), .int (nI 900), .int (nI 60), .int (nI 800), .int (nI 50), .int (nI 10), .int (nI 5), .ref q_73, .ref q_104, .ref q_138, .ref q_179, .int (nI 0)]))) H_208 := va_at.kept hv_207 (hk_214 qc (by omega))
  have hv_216 : va_at g.1 kCl ((qf, .inr (0, vsf))) H_208 := va_at.kept hv_200 (hk_214 qf (by omega))
  have hv_217 : va_at g.1 kCl ((q_73, .inr (2, [.int (nI 0), .int (nI 8), .int (nI 18), .int (nI 4)]))) H_208 := va_at.kept hv_201 (hk_214 q_73 (by omega))
  have hv_218 : va_at g.1 kCl ((q_104, .inr (2, [.int (nI 0), .int (nI 8), .int (nI 18), .int (nI 4)]))) H_208 := va_at.kept hv_202 (hk_214 q_104 (by omega))
  have hv_219 : va_at g.1 kCl ((q_138, .inr (1, [.int (nI 0), .int (nI 0), .int (nI 0), .ref q_154, .ref (q_154 + 1)]))) H_208 := va_at.kept hv_203 (hk_214 q_138 (by omega))
  have hv_220 : va_at g.1 kCl (cI g q_154 21 ((fun _ => nI 0))) H_208 := va_at.kept hv_204 (hk_214 q_154 (by omega))
  have hv_221 : va_at g.1 kCl (cI g (q_154 + 1) 21 ((fun _ => nI 0))) H_208 := va_at.kept hv_205 (hk_214 (q_154 + 1) (by omega))
  have hv_222 : va_at g.1 kCl ((q_179, .inl (g.2.2.1, 10, .inr (.inr (.inr (.inr ((va_up ((fun _ => none)) 0 (some qf))))))))) H_208 := hP_210 0 _ rfl
  refine n_iinc (lv' := [(2, .int (nI 1)), (0, .ref qc), (1, .ref qf)]) hC dX3_init_110 hl rfl (by decide) rfl (fun ls hl => ?_)
  refine lv_goto (tgt := 97) hx hb dX3_init_113 (by decide) ?_
  refine lv_iload_n hx hb dX3_init_97 rfl (lvG hl rfl) ?_
  refine lv_bipush (v := nI 10) hx hb dX3_init_98 (by decide) ?_
  refine n_icmp_ge (tgt := 116) hC dX3_init_100 (by decide) (by decide) (by decide) (fun c => absurd c (by decide)) (fun _ => ?_)
  refine lv_aload_n hx hb dX3_init_103 rfl (lvG hl rfl) ?_
  refine va_get (D := g.1) (ci := 3) (v := .ref q_179) (C := RX3) (T := TX3) (N := 13) hx hb hts i_X3 hown hK.1 ((va_one hv_215)) 0 rfl rfl 11 (by decide) (hts _ w_143) (fun _ h9 => h9) rfl dX3_init_104 ?_
  refine lv_iload_n hx hb dX3_init_107 rfl (lvG hl rfl) ?_
  refine lv_aload_n hx hb dX3_init_108 rfl (lvG hl rfl) ?_
  refine q_astO (k := 1) hC hK ((va_one hv_222)) (D1 (A := fun z => qc ≤ z) (show qc ≤ q_179 by omega)) hS_212 0 rfl hv_216 (by decide) (by decide) dX3_init_109 (fun H_223 locs_224 hP_225 hD_226 hS_227 hz_228 hk_229 => ?_)
  have hv_230 : va_at g.1 kCl ((qc, .inr (3, [.int (nI 2), .int (nI 1000), .int (nI 900), .int (nI 60), .int (nI 800), .int (nI 50), .int (nI 10), .int (nI 5), .ref q_73, .ref q_104, .ref q_138, .ref q_179, .int (nI 0)]))) H_223 := va_at.kept hv_215 (hk_229 qc (by omega))
  have hv_231 : va_at g.1 kCl ((qf, .inr (0, vsf))) H_223 := va_at.kept hv_216 (hk_229 qf (by omega))
  have hv_232 : va_at g.1 kCl ((q_73, .inr (2, [.int (nI 0), .int (nI 8), .int (nI 18), .int (nI 4)]))) H_223 := va_at.kept hv_217 (hk_229 q_73 (by omega))
  have hv_233 : va_at g.1 kCl ((q_104, .inr (2, [.int (nI 0), .int (nI 8), .int (nI 18), .int (nI 4)]))) H_223 := va_at.kept hv_218 (hk_229 q_104 (by omega))
  have hv_234 : va_at g.1 kCl ((q_138, .inr (1, [.int (nI 0), .int (nI 0), .int (nI 0), .ref q_154, .ref (q_154 + 1)]))) H_223 := va_at.kept hv_219 (hk_229 q_138 (by omega))
  have hv_235 : va_at g.1 kCl (cI g q_154 21 ((fun _ => nI 0))) H_223 := va_at.kept hv_220 (hk_229 q_154 (by omega))
  have hv_236 : va_at g.1 kCl (cI g (q_154 + 1) 21 ((fun _ => nI 0))) H_223 := va_at.kept hv_221 (hk_229 (q_154 + 1) (by omega))
  have hv_237 : va_at g.1 kCl ((q_179, .inl (g.2.2.1, 10, .inr (.inr (.inr (.inr ((va_up ((va_up ((fun _ => none)) 0 (some qf))) 1 (some qf))))))))) H_223 := hP_225 0 _ rfl
  refine n_iinc (lv' := [(2, .int (nI 2)), (0, .ref qc), (1, .ref qf)]) hC dX3_init_110 hl rfl (by decide) rfl (fun ls hl => ?_)
  refine lv_goto (tgt := 97) hx hb dX3_init_113 (by decide) ?_
  refine lv_iload_n hx hb dX3_init_97 rfl (lvG hl rfl) ?_
  refine lv_bipush (v := nI 10) hx hb dX3_init_98 (by decide) ?_
  refine n_icmp_ge (tgt := 116) hC dX3_init_100 (by decide) (by decide) (by decide) (fun c => absurd c (by decide)) (fun _ => ?_)
  refine lv_aload_n hx hb dX3_init_103 rfl (lvG hl rfl) ?_
  refine va_get (D := g.1) (ci := 3) (v := .ref q_179) (C := RX3) (T := TX3) (N := 13) hx hb hts i_X3 hown hK.1 ((va_one hv_230)) 0 rfl rfl 11 (by decide) (hts _ w_143) (fun _ h9 => h9) rfl dX3_init_104 ?_
  refine lv_iload_n hx hb dX3_init_107 rfl (lvG hl rfl) ?_
  refine lv_aload_n hx hb dX3_init_108 rfl (lvG hl rfl) ?_
  refine q_astO (k := 2) hC hK ((va_one hv_237)) (D1 (A := fun z => qc ≤ z) (show qc ≤ q_179 by omega)) hS_227 0 rfl hv_231 (by decide) (by decide) dX3_init_109 (fun H_238 locs_239 hP_240 hD_241 hS_242 hz_243 hk_244 => ?_)
  have hv_245 : va_at g.1 kCl ((qc, .inr (3, [.int (nI 2), .int (nI 1000), .int (nI 900), .int (nI 60), .int (nI 800), .int (nI 50), .int (nI 10), .int (nI 5), .ref q_73, .ref q_104, .ref q_138, .ref q_179, .int (nI 0)]))) H_238 := va_at.kept hv_230 (hk_244 qc (by omega))
  have hv_246 : va_at g.1 kCl ((qf, .inr (0, vsf))) H_238 := va_at.kept hv_231 (hk_244 qf (by omega))
  have hv_247 : va_at g.1 kCl ((q_73, .inr (2, [.int (nI 0), .int (nI 8), .int (nI 18), .int (nI 4)]))) H_238 := va_at.kept hv_232 (hk_244 q_73 (by omega))
  have hv_248 : va_at g.1 kCl ((q_104, .inr (2, [.int (nI 0), .int (nI 8), .int (nI 18), .int (nI 4)]))) H_238 := va_at.kept hv_233 (hk_244 q_104 (by omega))
  have hv_249 : va_at g.1 kCl ((q_138, .inr (1, [.int (nI 0), .int (nI 0), .int (nI 0), .ref q_154, .ref (q_154 + 1)]))) H_238 := va_at.kept hv_234 (hk_244 q_138 (by omega))
  have hv_250 : va_at g.1 kCl (cI g q_154 21 ((fun _ => nI 0))) H_238 := va_at.kept hv_235 (hk_244 q_154 (by omega))
  have hv_251 : va_at g.1 kCl (cI g (q_154 + 1) 21 ((fun _ => nI 0))) H_238 := va_at.kept hv_236 (hk_244 (q_154 + 1) (by omega))
  have hv_252 : va_at g.1 kCl ((q_179, .inl (g.2.2.1, 10, .inr (.inr (.inr (.inr ((va_up ((va_up ((va_up ((fun _ => none)) 0 (some qf))) 1 (some qf))) 2 (some qf))))))))) H_238 := hP_240 0 _ rfl
  refine n_iinc (lv' := [(2, .int (nI 3)), (0, .ref qc), (1, .ref qf)]) hC dX3_init_110 hl rfl (by decide) rfl (fun ls hl => ?_)
  refine lv_goto (tgt := 97) hx hb dX3_init_113 (by decide) ?_
  refine lv_iload_n hx hb dX3_init_97 rfl (lvG hl rfl) ?_
  refine lv_bipush (v := nI 10) hx hb dX3_init_98 (by decide) ?_
  refine n_icmp_ge (tgt := 116) hC dX3_init_100 (by decide) (by decide) (by decide) (fun c => absurd c (by decide)) (fun _ => ?_)
  refine lv_aload_n hx hb dX3_init_103 rfl (lvG hl rfl) ?_
  refine va_get (D := g.1) (ci := 3) (v := .ref q_179) (C := RX3) (T := TX3) (N := 13) hx hb hts i_X3 hown hK.1 ((va_one hv_245)) 0 rfl rfl 11 (by decide) (hts _ w_143) (fun _ h9 => h9) rfl dX3_init_104 ?_
  refine lv_iload_n hx hb dX3_init_107 rfl (lvG hl rfl) ?_
  refine lv_aload_n hx hb dX3_init_108 rfl (lvG hl rfl) ?_
  refine q_astO (k := 3) hC hK ((va_one hv_252)) (D1 (A := fun z => qc ≤ z) (show qc ≤ q_179 by omega)) hS_242 0 rfl hv_246 (by decide) (by decide) dX3_init_109 (fun H_253 locs_254 hP_255 hD_256 hS_257 hz_258 hk_259 => ?_)
  have hv_260 : va_at g.1 kCl ((qc, .inr (3, [.int (nI 2), .int (nI 1000), .int (nI 900), .int (nI 60), .int (nI 800), .int (nI 50), .int (nI 10), .int (nI 5), .ref q_73, .ref q_104, .ref q_138, .ref q_179, .int (nI 0)]))) H_253 := va_at.kept hv_245 (hk_259 qc (by omega))
  have hv_261 : va_at g.1 kCl ((qf, .inr (0, vsf))) H_253 := va_at.kept hv_246 (hk_259 qf (by omega))
  have hv_262 : va_at g.1 kCl ((q_73, .inr (2, [.int (nI 0), .int (nI 8), .int (nI 18), .int (nI 4)]))) H_253 := va_at.kept hv_247 (hk_259 q_73 (by omega))
  have hv_263 : va_at g.1 kCl ((q_104, .inr (2, [.int (nI 0), .int (nI 8), .int (nI 18), .int (nI 4)]))) H_253 := va_at.kept hv_248 (hk_259 q_104 (by omega))
  have hv_264 : va_at g.1 kCl ((q_138, .inr (1, [.int (nI 0), .int (nI 0), .int (nI 0), .ref q_154, .ref (q_154 + 1)]))) H_253 := va_at.kept hv_249 (hk_259 q_138 (by omega))
  have hv_265 : va_at g.1 kCl (cI g q_154 21 ((fun _ => nI 0))) H_253 := va_at.kept hv_250 (hk_259 q_154 (by omega))
  have hv_266 : va_at g.1 kCl (cI g (q_154 + 1) 21 ((fun _ => nI 0))) H_253 := va_at.kept hv_251 (hk_259 (q_154 + 1) (by omega))
  have hv_267 : va_at g.1 kCl ((q_179, .inl (g.2.2.1, 10, .inr (.inr (.inr (.inr ((va_up ((va_up ((va_up ((va_up ((fun _ => none)) 0 (some qf))) 1 (some qf))) 2 (some qf))) 3 (some qf))))))))) H_253 := hP_255 0 _ rfl
  refine n_iinc (lv' := [(2, .int (nI 4)), (0, .ref qc), (1, .ref qf)]) hC dX3_init_110 hl rfl (by decide) rfl (fun ls hl => ?_)
  refine lv_goto (tgt := 97) hx hb dX3_init_113 (by decide) ?_
  refine lv_iload_n hx hb dX3_init_97 rfl (lvG hl rfl) ?_
  refine lv_bipush (v := nI 10) hx hb dX3_init_98 (by decide) ?_
  refine n_icmp_ge (tgt := 116) hC dX3_init_100 (by decide) (by decide) (by decide) (fun c => absurd c (by decide)) (fun _ => ?_)
  refine lv_aload_n hx hb dX3_init_103 rfl (lvG hl rfl) ?_
  refine va_get (D := g.1) (ci := 3) (v := .ref q_179) (C := RX3) (T := TX3) (N := 13) hx hb hts i_X3 hown hK.1 ((va_one hv_260)) 0 rfl rfl 11 (by decide) (hts _ w_143) (fun _ h9 => h9) rfl dX3_init_104 ?_
  refine lv_iload_n hx hb dX3_init_107 rfl (lvG hl rfl) ?_
  refine lv_aload_n hx hb dX3_init_108 rfl (lvG hl rfl) ?_
  refine q_astO (k := 4) hC hK ((va_one hv_267)) (D1 (A := fun z => qc ≤ z) (show qc ≤ q_179 by omega)) hS_257 0 rfl hv_261 (by decide) (by decide) dX3_init_109 (fun H_268 locs_269 hP_270 hD_271 hS_272 hz_273 hk_274 => ?_)
  have hv_275 : va_at g.1 kCl ((qc, .inr (3, [.int (nI 2), .int (nI 1000), .int (nI 900), .int (nI 60), .int (nI 800), .int (nI 50), .int (nI 10), .int (nI 5), .ref q_73, .ref q_104, .ref q_138, .ref q_179, .int (nI 0)]))) H_268 := va_at.kept hv_260 (hk_274 qc (by omega))
  have hv_276 : va_at g.1 kCl ((qf, .inr (0, vsf))) H_268 := va_at.kept hv_261 (hk_274 qf (by omega))
  have hv_277 : va_at g.1 kCl ((q_73, .inr (2, [.int (nI 0), .int (nI 8), .int (nI 18), .int (nI 4)]))) H_268 := va_at.kept hv_262 (hk_274 q_73 (by omega))
  have hv_278 : va_at g.1 kCl ((q_104, .inr (2, [.int (nI 0), .int (nI 8), .int (nI 18), .int (nI 4)]))) H_268 := va_at.kept hv_263 (hk_274 q_104 (by omega))
  have hv_279 : va_at g.1 kCl ((q_138, .inr (1, [.int (nI 0), .int (nI 0), .int (nI 0), .ref q_154, .ref (q_154 + 1)]))) H_268 := va_at.kept hv_264 (hk_274 q_138 (by omega))
  have hv_280 : va_at g.1 kCl (cI g q_154 21 ((fun _ => nI 0))) H_268 := va_at.kept hv_265 (hk_274 q_154 (by omega))
  have hv_281 : va_at g.1 kCl (cI g (q_154 + 1) 21 ((fun _ => nI 0))) H_268 := va_at.kept hv_266 (hk_274 (q_154 + 1) (by omega))
  have hv_282 : va_at g.1 kCl ((q_179, .inl (g.2.2.1, 10, .inr (.inr (.inr (.inr ((va_up ((va_up ((va_up ((va_up ((va_up ((fun _ => none)) 0 (some qf))) 1 (some qf))) 2 (some qf))) 3 (some qf))) 4 (some qf))))))))) H_268 := hP_270 0 _ rfl
  refine n_iinc (lv' := [(2, .int (nI 5)), (0, .ref qc), (1, .ref qf)]) hC dX3_init_110 hl rfl (by decide) rfl (fun ls hl => ?_)
  refine lv_goto (tgt := 97) hx hb dX3_init_113 (by decide) ?_
  refine lv_iload_n hx hb dX3_init_97 rfl (lvG hl rfl) ?_
  refine lv_bipush (v := nI 10) hx hb dX3_init_98 (by decide) ?_
  refine n_icmp_ge (tgt := 116) hC dX3_init_100 (by decide) (by decide) (by decide) (fun c => absurd c (by decide)) (fun _ => ?_)
  refine lv_aload_n hx hb dX3_init_103 rfl (lvG hl rfl) ?_
  refine va_get (D := g.1) (ci := 3) (v := .ref q_179) (C := RX3) (T := TX3) (N := 13) hx hb hts i_X3 hown hK.1 ((va_one hv_275)) 0 rfl rfl 11 (by decide) (hts _ w_143) (fun _ h9 => h9) rfl dX3_init_104 ?_
  refine lv_iload_n hx hb dX3_init_107 rfl (lvG hl rfl) ?_
  refine lv_aload_n hx hb dX3_init_108 rfl (lvG hl rfl) ?_
  refine q_astO (k := 5) hC hK ((va_one hv_282)) (D1 (A := fun z => qc ≤ z) (show qc ≤ q_179 by omega)) hS_272 0 rfl hv_276 (by decide) (by decide) dX3_init_109 (fun H_283 locs_284 hP_285 hD_286 hS_287 hz_288 hk_289 => ?_)
  have hv_290 : va_at g.1 kCl ((qc, .inr (3, [.int (nI 2), .int (nI 1000), .int (nI 900), .int (nI 60), .int (nI 800), .int (nI 50), .int (nI 10), .int (nI 5), .ref q_73, .ref q_104, .ref q_138, .ref q_179, .int (nI 0)]))) H_283 := va_at.kept hv_275 (hk_289 qc (by omega))
  have hv_291 : va_at g.1 kCl ((qf, .inr (0, vsf))) H_283 := va_at.kept hv_276 (hk_289 qf (by omega))
  have hv_292 : va_at g.1 kCl ((q_73, .inr (2, [.int (nI 0), .int (nI 8), .int (nI 18), .int (nI 4)]))) H_283 := va_at.kept hv_277 (hk_289 q_73 (by omega))
  have hv_293 : va_at g.1 kCl ((q_104, .inr (2, [.int (nI 0), .int (nI 8), .int (nI 18), .int (nI 4)]))) H_283 := va_at.kept hv_278 (hk_289 q_104 (by omega))
  have hv_294 : va_at g.1 kCl ((q_138, .inr (1, [.int (nI 0), .int (nI 0), .int (nI 0), .ref q_154, .ref (q_154 + 1)]))) H_283 := va_at.kept hv_279 (hk_289 q_138 (by omega))
  have hv_295 : va_at g.1 kCl (cI g q_154 21 ((fun _ => nI 0))) H_283 := va_at.kept hv_280 (hk_289 q_154 (by omega))
  have hv_296 : va_at g.1 kCl (cI g (q_154 + 1) 21 ((fun _ => nI 0))) H_283 := va_at.kept hv_281 (hk_289 (q_154 + 1) (by omega))
  have hv_297 : va_at g.1 kCl ((q_179, .inl (g.2.2.1, 10, .inr (.inr (.inr (.inr ((va_up ((va_up ((va_up ((va_up ((va_up ((va_up ((fun _ => none)) 0 (some qf))) 1 (some qf))) 2 (some qf))) 3 (some qf))) 4 (some qf))) 5 (some qf))))))))) H_283 := hP_285 0 _ rfl
  refine n_iinc (lv' := [(2, .int (nI 6)), (0, .ref qc), (1, .ref qf)]) hC dX3_init_110 hl rfl (by decide) rfl (fun ls hl => ?_)
  refine lv_goto (tgt := 97) hx hb dX3_init_113 (by decide) ?_
  refine lv_iload_n hx hb dX3_init_97 rfl (lvG hl rfl) ?_
  refine lv_bipush (v := nI 10) hx hb dX3_init_98 (by decide) ?_
  refine n_icmp_ge (tgt := 116) hC dX3_init_100 (by decide) (by decide) (by decide) (fun c => absurd c (by decide)) (fun _ => ?_)
  refine lv_aload_n hx hb dX3_init_103 rfl (lvG hl rfl) ?_
  refine va_get (D := g.1) (ci := 3) (v := .ref q_179) (C := RX3) (T := TX3) (N := 13) hx hb hts i_X3 hown hK.1 ((va_one hv_290)) 0 rfl rfl 11 (by decide) (hts _ w_143) (fun _ h9 => h9) rfl dX3_init_104 ?_
  refine lv_iload_n hx hb dX3_init_107 rfl (lvG hl rfl) ?_
  refine lv_aload_n hx hb dX3_init_108 rfl (lvG hl rfl) ?_
  refine q_astO (k := 6) hC hK ((va_one hv_297)) (D1 (A := fun z => qc ≤ z) (show qc ≤ q_179 by omega)) hS_287 0 rfl hv_291 (by decide) (by decide) dX3_init_109 (fun H_298 locs_299 hP_300 hD_301 hS_302 hz_303 hk_304 => ?_)
  have hv_305 : va_at g.1 kCl ((qc, .inr (3, [.int (nI 2), .int (nI 1000), .int (nI 900), .int (nI 60), .int (nI 800), .int (nI 50), .int (nI 10), .int (nI 5), .ref q_73, .ref q_104, .ref q_138, .ref q_179, .int (nI 0)]))) H_298 := va_at.kept hv_290 (hk_304 qc (by omega))
  have hv_306 : va_at g.1 kCl ((qf, .inr (0, vsf))) H_298 := va_at.kept hv_291 (hk_304 qf (by omega))
  have hv_307 : va_at g.1 kCl ((q_73, .inr (2, [.int (nI 0), .int (nI 8), .int (nI 18), .int (nI 4)]))) H_298 := va_at.kept hv_292 (hk_304 q_73 (by omega))
  have hv_308 : va_at g.1 kCl ((q_104, .inr (2, [.int (nI 0), .int (nI 8), .int (nI 18), .int (nI 4)]))) H_298 := va_at.kept hv_293 (hk_304 q_104 (by omega))
  have hv_309 : va_at g.1 kCl ((q_138, .inr (1, [.int (nI 0), .int (nI 0), .int (nI 0), .ref q_154, .ref (q_154 + 1)]))) H_298 := va_at.kept hv_294 (hk_304 q_138 (by omega))
  have hv_310 : va_at g.1 kCl (cI g q_154 21 ((fun _ => nI 0))) H_298 := va_at.kept hv_295 (hk_304 q_154 (by omega))
  have hv_311 : va_at g.1 kCl (cI g (q_154 + 1) 21 ((fun _ => nI 0))) H_298 := va_at.kept hv_296 (hk_304 (q_154 + 1) (by omega))
  have hv_312 : va_at g.1 kCl ((q_179, .inl (g.2.2.1, 10, .inr (.inr (.inr (.inr ((va_up ((va_up ((va_up ((va_up ((va_up ((va_up ((va_up ((fun _ => none)) 0 (some qf))) 1 (some qf))) 2 (some qf))) 3 (some qf))) 4 (some qf))) 5 (some qf))) 6 (some qf))))))))) H_298 := hP_300 0 _ rfl
  refine n_iinc (lv' := [(2, .int (nI 7)), (0, .ref qc), (1, .ref qf)]) hC dX3_init_110 hl rfl (by decide) rfl (fun ls hl => ?_)
  refine lv_goto (tgt := 97) hx hb dX3_init_113 (by decide) ?_
  refine lv_iload_n hx hb dX3_init_97 rfl (lvG hl rfl) ?_
  refine lv_bipush (v := nI 10) hx hb dX3_init_98 (by decide) ?_
  refine n_icmp_ge (tgt := 116) hC dX3_init_100 (by decide) (by decide) (by decide) (fun c => absurd c (by decide)) (fun _ => ?_)
  refine lv_aload_n hx hb dX3_init_103 rfl (lvG hl rfl) ?_
  refine va_get (D := g.1) (ci := 3) (v := .ref q_179) (C := RX3) (T := TX3) (N := 13) hx hb hts i_X3 hown hK.1 ((va_one hv_305)) 0 rfl rfl 11 (by decide) (hts _ w_143) (fun _ h9 => h9) rfl dX3_init_104 ?_
  refine lv_iload_n hx hb dX3_init_107 rfl (lvG hl rfl) ?_
  refine lv_aload_n hx hb dX3_init_108 rfl (lvG hl rfl) ?_
  refine q_astO (k := 7) hC hK ((va_one hv_312)) (D1 (A := fun z => qc ≤ z) (show qc ≤ q_179 by omega)) hS_302 0 rfl hv_306 (by decide) (by decide) dX3_init_109 (fun H_313 locs_314 hP_315 hD_316 hS_317 hz_318 hk_319 => ?_)
  have hv_320 : va_at g.1 kCl ((qc, .inr (3, [.int (nI 2), .int (nI 1000), .int (nI 900), .int (nI 60), .int (nI 800), .int (nI 50), .int (nI 10), .int (nI 5), .ref q_73, .ref q_104, .ref q_138, .ref q_179, .int (nI 0)]))) H_313 := va_at.kept hv_305 (hk_319 qc (by omega))
  have hv_321 : va_at g.1 kCl ((qf, .inr (0, vsf))) H_313 := va_at.kept hv_306 (hk_319 qf (by omega))
  have hv_322 : va_at g.1 kCl ((q_73, .inr (2, [.int (nI 0), .int (nI 8), .int (nI 18), .int (nI 4)]))) H_313 := va_at.kept hv_307 (hk_319 q_73 (by omega))
  have hv_323 : va_at g.1 kCl ((q_104, .inr (2, [.int (nI 0), .int (nI 8), .int (nI 18), .int (nI 4)]))) H_313 := va_at.kept hv_308 (hk_319 q_104 (by omega))
  have hv_324 : va_at g.1 kCl ((q_138, .inr (1, [.int (nI 0), .int (nI 0), .int (nI 0), .ref q_154, .ref (q_154 + 1)]))) H_313 := va_at.kept hv_309 (hk_319 q_138 (by omega))
  have hv_325 : va_at g.1 kCl (cI g q_154 21 ((fun _ => nI 0))) H_313 := va_at.kept hv_310 (hk_319 q_154 (by omega))
  have hv_326 : va_at g.1 kCl (cI g (q_154 + 1) 21 ((fun _ => nI 0))) H_313 := va_at.kept hv_311 (hk_319 (q_154 + 1) (by omega))
  have hv_327 : va_at g.1 kCl ((q_179, .inl (g.2.2.1, 10, .inr (.inr (.inr (.inr ((va_up ((va_up ((va_up ((va_up ((va_up ((va_up ((va_up ((va_up ((fun _ => none)) 0 (some qf))) 1 (some qf))) 2 (some qf))) 3 (some qf))) 4 (some qf))) 5 (some qf))) 6 (some qf))) 7 (some qf))))))))) H_313 := hP_315 0 _ rfl
  refine n_iinc (lv' := [(2, .int (nI 8)), (0, .ref qc), (1, .ref qf)]) hC dX3_init_110 hl rfl (by decide) rfl (fun ls hl => ?_)
  refine lv_goto (tgt := 97) hx hb dX3_init_113 (by decide) ?_
  refine lv_iload_n hx hb dX3_init_97 rfl (lvG hl rfl) ?_
  refine lv_bipush (v := nI 10) hx hb dX3_init_98 (by decide) ?_
  refine n_icmp_ge (tgt := 116) hC dX3_init_100 (by decide) (by decide) (by decide) (fun c => absurd c (by decide)) (fun _ => ?_)
  refine lv_aload_n hx hb dX3_init_103 rfl (lvG hl rfl) ?_
  refine va_get (D := g.1) (ci := 3) (v := .ref q_179) (C := RX3) (T := TX3) (N := 13) hx hb hts i_X3 hown hK.1 ((va_one hv_320)) 0 rfl rfl 11 (by decide) (hts _ w_143) (fun _ h9 => h9) rfl dX3_init_104 ?_
  refine lv_iload_n hx hb dX3_init_107 rfl (lvG hl rfl) ?_
  refine lv_aload_n hx hb dX3_init_108 rfl (lvG hl rfl) ?_
  refine q_astO (k := 8) hC hK ((va_one hv_327)) (D1 (A := fun z => qc ≤ z) (show qc ≤ q_179 by omega)) hS_317 0 rfl hv_321 (by decide) (by decide) dX3_init_109 (fun H_328 locs_329 hP_330 hD_331 hS_332 hz_333 hk_334 => ?_)
  have hv_335 : va_at g.1 kCl ((qc, .inr (3, [.int (nI 2), .int (nI 1000), .int (nI 900), .int (nI 60), .int (nI 800), .int (nI 50), .int (nI 10), .int (nI 5), .ref q_73, .ref q_104, .ref q_138, .ref q_179, .int (nI 0)]))) H_328 := va_at.kept hv_320 (hk_334 qc (by omega))
  have hv_336 : va_at g.1 kCl ((qf, .inr (0, vsf))) H_328 := va_at.kept hv_321 (hk_334 qf (by omega))
  have hv_337 : va_at g.1 kCl ((q_73, .inr (2, [.int (nI 0), .int (nI 8), .int (nI 18), .int (nI 4)]))) H_328 := va_at.kept hv_322 (hk_334 q_73 (by omega))
  have hv_338 : va_at g.1 kCl ((q_104, .inr (2, [.int (nI 0), .int (nI 8), .int (nI 18), .int (nI 4)]))) H_328 := va_at.kept hv_323 (hk_334 q_104 (by omega))
  have hv_339 : va_at g.1 kCl ((q_138, .inr (1, [.int (nI 0), .int (nI 0), .int (nI 0), .ref q_154, .ref (q_154 + 1)]))) H_328 := va_at.kept hv_324 (hk_334 q_138 (by omega))
  have hv_340 : va_at g.1 kCl (cI g q_154 21 ((fun _ => nI 0))) H_328 := va_at.kept hv_325 (hk_334 q_154 (by omega))
  have hv_341 : va_at g.1 kCl (cI g (q_154 + 1) 21 ((fun _ => nI 0))) H_328 := va_at.kept hv_326 (hk_334 (q_154 + 1) (by omega))
  have hv_342 : va_at g.1 kCl ((q_179, .inl (g.2.2.1, 10, .inr (.inr (.inr (.inr ((va_up ((va_up ((va_up ((va_up ((va_up ((va_up ((va_up ((va_up ((va_up ((fun _ => none)) 0 (some qf))) 1 (some qf))) 2 (some qf))) 3 (some qf))) 4 (some qf))) 5 (some qf))) 6 (some qf))) 7 (some qf))) 8 (some qf))))))))) H_328 := hP_330 0 _ rfl
  refine n_iinc (lv' := [(2, .int (nI 9)), (0, .ref qc), (1, .ref qf)]) hC dX3_init_110 hl rfl (by decide) rfl (fun ls hl => ?_)
  refine lv_goto (tgt := 97) hx hb dX3_init_113 (by decide) ?_
  refine lv_iload_n hx hb dX3_init_97 rfl (lvG hl rfl) ?_
  refine lv_bipush (v := nI 10) hx hb dX3_init_98 (by decide) ?_
  refine n_icmp_ge (tgt := 116) hC dX3_init_100 (by decide) (by decide) (by decide) (fun c => absurd c (by decide)) (fun _ => ?_)
  refine lv_aload_n hx hb dX3_init_103 rfl (lvG hl rfl) ?_
  refine va_get (D := g.1) (ci := 3) (v := .ref q_179) (C := RX3) (T := TX3) (N := 13) hx hb hts i_X3 hown hK.1 ((va_one hv_335)) 0 rfl rfl 11 (by decide) (hts _ w_143) (fun _ h9 => h9) rfl dX3_init_104 ?_
  refine lv_iload_n hx hb dX3_init_107 rfl (lvG hl rfl) ?_
  refine lv_aload_n hx hb dX3_init_108 rfl (lvG hl rfl) ?_
  refine q_astO (k := 9) hC hK ((va_one hv_342)) (D1 (A := fun z => qc ≤ z) (show qc ≤ q_179 by omega)) hS_332 0 rfl hv_336 (by decide) (by decide) dX3_init_109 (fun H_343 locs_344 hP_345 hD_346 hS_347 hz_348 hk_349 => ?_)
  have hv_350 : va_at g.1 kCl ((qc, .inr (3, [.int (nI 2), .int (nI 1000), .int (nI 900), .int (nI 60), .int (nI 800), .int (nI 50), .int (nI 10), .int (nI 5), .ref q_73, .ref q_104, .ref q_138, .ref q_179, .int (nI 0)]))) H_343 := va_at.kept hv_335 (hk_349 qc (by omega))
  have hv_351 : va_at g.1 kCl ((qf, .inr (0, vsf))) H_343 := va_at.kept hv_336 (hk_349 qf (by omega))
  have hv_352 : va_at g.1 kCl ((q_73, .inr (2, [.int (nI 0), .int (nI 8), .int (nI 18), .int (nI 4)]))) H_343 := va_at.kept hv_337 (hk_349 q_73 (by omega))
  have hv_353 : va_at g.1 kCl ((q_104, .inr (2, [.int (nI 0), .int (nI 8), .int (nI 18), .int (nI 4)]))) H_343 := va_at.kept hv_338 (hk_349 q_104 (by omega))
  have hv_354 : va_at g.1 kCl ((q_138, .inr (1, [.int (nI 0), .int (nI 0), .int (nI 0), .ref q_154, .ref (q_154 + 1)]))) H_343 := va_at.kept hv_339 (hk_349 q_138 (by omega))
  have hv_355 : va_at g.1 kCl (cI g q_154 21 ((fun _ => nI 0))) H_343 := va_at.kept hv_340 (hk_349 q_154 (by omega))
  have hv_356 : va_at g.1 kCl (cI g (q_154 + 1) 21 ((fun _ => nI 0))) H_343 := va_at.kept hv_341 (hk_349 (q_154 + 1) (by omega))
  have hv_357 : va_at g.1 kCl ((q_179, .inl (g.2.2.1, 10, .inr (.inr (.inr (.inr ((va_up ((va_up ((va_up ((va_up ((va_up ((va_up ((va_up ((va_up ((va_up ((va_up ((fun _ => none)) 0 (some qf))) 1 (some qf))) 2 (some qf))) 3 (some qf))) 4 (some qf))) 5 (some qf))) 6 (some qf))) 7 (some qf))) 8 (some qf))) 9 (some qf))))))))) H_343 := hP_345 0 _ rfl
  refine n_iinc (lv' := [(2, .int (nI 10)), (0, .ref qc), (1, .ref qf)]) hC dX3_init_110 hl rfl (by decide) rfl (fun ls hl => ?_)
  refine lv_goto (tgt := 97) hx hb dX3_init_113 (by decide) ?_
  refine lv_iload_n hx hb dX3_init_97 rfl (lvG hl rfl) ?_
  refine lv_bipush (v := nI 10) hx hb dX3_init_98 (by decide) ?_
  refine n_icmp_ge (tgt := 116) hC dX3_init_100 (by decide) (by decide) (by decide) (fun _ => ?_) (fun c => absurd c (by decide))
  refine lv_aload_n hx hb dX3_init_116 rfl (lvG hl rfl) ?_
  refine lv_iconst (v := nI 0) hx hb dX3_init_117 (by decide) ?_
  refine k_putO (ci := 3) (v := .int (nI 0)) (ty := .int) (C := RX3) (T := TX3) (N := 13) hC hK i_X3 tyX3 tyX3_ok nmX3 ((va_one hv_350)) (D1 (A := fun z => qc ≤ z) (show qc ≤ qc by omega)) hS_347 0 rfl rfl 12 (by decide) w_145 (fun _ h9 => h9) rfl (by decide +kernel) rfl rfl (Nat.le_of_ble_eq_true rfl) dX3_init_118 (fun H_358 locs_359 hP_360 hD_361 hS_362 hz_363 hk_364 => ?_)
  have hv_365 : va_at g.1 kCl ((qf, .inr (0, vsf))) H_358 := va_at.kept hv_351 (hk_364 qf (by omega))
  have hv_366 : va_at g.1 kCl ((q_73, .inr (2, [.int (nI 0), .int (nI 8), .int (nI 18), .int (nI 4)]))) H_358 := va_at.kept hv_352 (hk_364 q_73 (by omega))
  have hv_367 : va_at g.1 kCl ((q_104, .inr (2, [.int (nI 0), .int (nI 8), .int (nI 18), .int (nI 4)]))) H_358 := va_at.kept hv_353 (hk_364 q_104 (by omega))
  have hv_368 : va_at g.1 kCl ((q_138, .inr (1, [.int (nI 0), .int (nI 0), .int (nI 0), .ref q_154, .ref (q_154 + 1)]))) H_358 := va_at.kept hv_354 (hk_364 q_138 (by omega))
  have hv_369 : va_at g.1 kCl (cI g q_154 21 ((fun _ => nI 0))) H_358 := va_at.kept hv_355 (hk_364 q_154 (by omega))
  have hv_370 : va_at g.1 kCl (cI g (q_154 + 1) 21 ((fun _ => nI 0))) H_358 := va_at.kept hv_356 (hk_364 (q_154 + 1) (by omega))
  have hv_371 : va_at g.1 kCl ((q_179, .inl (g.2.2.1, 10, .inr (.inr (.inr (.inr ((va_up ((va_up ((va_up ((va_up ((va_up ((va_up ((va_up ((va_up ((va_up ((va_up ((fun _ => none)) 0 (some qf))) 1 (some qf))) 2 (some qf))) 3 (some qf))) 4 (some qf))) 5 (some qf))) 6 (some qf))) 7 (some qf))) 8 (some qf))) 9 (some qf))))))))) H_358 := va_at.kept hv_357 (hk_364 q_179 (by omega))
  have hv_372 : va_at g.1 kCl ((qc, .inr (3, [.int (nI 2), .int (nI 1000), .int (nI 900), .int (nI 60), .int (nI 800), .int (nI 50), .int (nI 10), .int (nI 5), .ref q_73, .ref q_104, .ref q_138, .ref q_179, .int (nI 0)]))) H_358 := hP_360 0 _ rfl
  have hv_373 : va_at g.1 kCl ((q_179, .inl (g.2.2.1, 10, .inr (.inr (.inr (.inr ((fun _ => some qf)))))))) H_358 := cR_eq (fun k hk => by rcases (show k = 0 ∨ k = 1 ∨ k = 2 ∨ k = 3 ∨ k = 4 ∨ k = 5 ∨ k = 6 ∨ k = 7 ∨ k = 8 ∨ k = 9 by omega) with q0 | q0 | q0 | q0 | q0 | q0 | q0 | q0 | q0 | q0 <;> subst q0 <;> rfl) hv_371
  have hAll : va_P g.1 kCl [(qc, .inr (3, [.int (nI 2), .int (nI 1000), .int (nI 900), .int (nI 60), .int (nI 800), .int (nI 50), .int (nI 10), .int (nI 5), .ref q_73, .ref q_104, .ref q_138, .ref q_179, .int (nI 0)])), (qf, .inr (0, vsf)), (q_73, .inr (2, [.int (nI 0), .int (nI 8), .int (nI 18), .int (nI 4)])), (q_104, .inr (2, [.int (nI 0), .int (nI 8), .int (nI 18), .int (nI 4)])), (q_138, .inr (1, [.int (nI 0), .int (nI 0), .int (nI 0), .ref q_154, .ref (q_154 + 1)])), cI g q_154 21 ((fun _ => nI 0)), cI g (q_154 + 1) 21 ((fun _ => nI 0)), (q_179, .inl (g.2.2.1, 10, .inr (.inr (.inr (.inr ((fun _ => some qf)))))))] H_358 := (va_P.app (va_one hv_372) (va_P.app (va_one hv_365) (va_P.app (va_one hv_366) (va_P.app (va_one hv_367) (va_P.app (va_one hv_368) (va_P.app (va_one hv_369) (va_P.app (va_one hv_370) (va_one hv_373))))))))
  have ez2 : q_73 = qc + 1 := by omega
  have ez3 : q_104 = qc + 2 := by omega
  have ez4 : q_138 = qc + 3 := by omega
  have ez7 : q_179 = qc + 6 := by omega
  try rw [ez2] at hAll
  try rw [ez3] at hAll
  try rw [ez4] at hAll
  try rw [ez7] at hAll
  have ezr : q_154 = qc + 4 := by omega
  try rw [ezr] at hAll
  refine W.widen (k := 6) (n := 65) (by omega) (by omega) ?_
  exact k_vretM hC hr hlk hS_362 dX3_init_121 (⟨by omega, hAll.sub [0, 7, 2, 3, 4, 5, 6] rfl⟩)
