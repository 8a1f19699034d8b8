section WO4
variable {p : Program} {l : Launch} {e : Env} {R : Room} {s : State} {m : MethodId} {args : Array Value} {below : List Frame} {meth : Method} {c : Code} {H : Heap} {locs : List Loc} {cells slots : Nat} {Q : State → Prop}
variable {cc : ByteArray} {pc nL : Nat} {ls : Array Slot} {own : String} {g : kG} {ws : va_W} {A : Nat → Prop} {H0 : Heap} {rest : List Value} {a : Nat}
/-- a final field, in a constructor -/
theorem k_putFO (hC : CallFix p m c cc nL s args lw_good own) (hK : KK g s) {ref C : String} {T : u_T} {N ci index : Nat} (hin : ∀ w ∈ u_ws C T N, w ∈ lw_good) (ty0 : Nat → FieldType) (hty : ∀ k, k < N → parseFieldDescriptor (T k).2.2.1 = some (ty0 k)) (hnm : ∀ a, a < N → ∀ b, b < N → a ≠ b → (T a).2.1 ≠ (T b).2.1) (hP : va_P g.1 kCl ws H) (hD : va_D A ws) (hS0 : va_S A H0 H locs) (q0 : Nat) {fs : List Value} (he : ws[q0]? = some (a, .inr (ci, fs))) (hc : kCl[ci]? = some (C, T, N)) (k : Nat) (hk : k < N) (hlink : Cond.fieldLink own index ref (T k).2.1 (T k).2.2.1 ∈ lw_good) (hsame : ∀ x, s.fieldFound? (T k).1 (T k).2.1 (T k).2.2.1 = some x → s.fieldFound? ref (T k).2.1 (T k).2.2.1 = some x) (hfin : (T k).2.2.2 = true) (hini : meth.name = "<init>") (hdecl : (T k).1 = own) {ty : FieldType} {v : Value} (hd : parseFieldDescriptor (T k).2.2.1 = some ty) (hn : narrow ty v = v) (hfit : fits ty v = true) (hl : k < fs.length)
    (hdg : decode cc pc = .ok (.putfield index, 3)) (kk : ∀ (H1 : Heap) (locs1 : List Loc), va_P g.1 kCl (ws.set q0 (a, .inr (ci, fs.set k v))) H1 → va_D A (ws.set q0 (a, .inr (ci, fs.set k v))) → va_S A H0 H1 locs1 → H1.size = H.size → (∀ q : Nat, q ≠ a → H1[q]? = H[q]?) → W p l e R s m args below meth c H1 locs1 cells slots Q (F0 m (pc + 3) ls rest)) : W p l e R s m args below meth c H locs cells slots Q (F0 m pc ls (v :: .ref a :: rest)) := by
  have hts := hC.2.2.2.2
  have hown := hC.2.2.2.1
  have hap := va_apart (own := own) hts hin ty0 hty hnm hK.1 hc
  obtain ⟨r, h1, cell, q1, q2, q3, q4⟩ := hP q0 _ he
  have hr : r = (C, T, N) := Option.some.inj (h1.symm.trans hc)
  subst hr
  obtain ⟨hS, hfc, kC, hkC, hkind⟩ := hK.1.1 ci _ hc
  obtain ⟨cf, kf, fi, f, hi, hsl⟩ := hS k hk
  have hlay := hts _ (hin _ (u_in_lay hk))
  unfold u_lay at hlay
  rw [if_pos hfin] at hlay
  have hcf : m.cls = cf := by
    obtain ⟨_, _, c', _, _, _, -, -, hf', -, -, -, hown2, -⟩ := Cond.laysFinal_spec hlay
    have e1 : c' = cf := by have := hi.symm.trans hf'; simp at this; exact this.1.symm
    rw [hdecl] at hown2
    rw [← e1]; exact Option.some.inj (hown.symm.trans hown2)
  refine W.putFinK hC.1 hC.2.1 hown (hts _ hlink) (hsame _ hi) (u_facts hfc hkC (u_lays hts hin hk) hi).1 hcf hini (by rw [q2]; exact u_fits hfc hkC hkind (Or.inr hlay) hi hd hn hfit) q1 q3 (by rw [hsl]; exact k2_hasslot (q4 k hk)) rfl rfl hdg fun H' e1 e2 e3 => ?_
  rw [hsl] at e1 ⊢
  exact kk H' _ (hP.set hD he ⟨_, hc, t_OB.to (V := updV (vp_V fs) k v) ⟨_, e1, q2, q3, t_set q4 hap hk v⟩ (fun j _ => vp_updV_set hl v j)⟩ e3) (hD.set he) (hS0.put e2 e3 (hD.2 q0 _ he)) e2 e3
/-- a new array of references -/
theorem k_newqO (hC : CallFix p m c cc nL s args lw_good own) (hK : KK g s) (t0 : Nat) {C : String} {cA : ClassId} (ht : (kTy g)[t0]? = some (cA, .object C)) (hover : va_AO C s) {index : Nat} (hcl : Cond.classLink own index C ∈ lw_good) (hS : va_S A H0 H locs) {n : Nat} (hn : n < 2 ^ 20) (hcells : cells + 1 ≤ R.cells) (hslots : slots + n ≤ R.slots) (hdg : decode cc pc = .ok (.anewarray index, 3))
    (kk : ∀ (q : Nat) (H1 : Heap), q = H.size → va_at g.1 kCl (q, .inl (cA, n, .inr (.inr (.inr (.inr (fun _ => none)))))) H1 → H1.size = H.size + 1 → (∀ z : Nat, z < H.size → H1[z]? = H[z]?) → va_S A H0 H1 locs → W p l e R s m args below meth c H1 locs (cells + 1) (slots + n) Q (F0 m (pc + 3) ls (.ref q :: rest))) : W p l e R s m args below meth c H locs cells slots Q (F0 m pc ls (.int (nI n) :: rest)) := by
  have hz : (nI n).toNatClampNeg = n := nI_clamp (by omega)
  refine W.anew hC.1 hC.2.1 hC.2.2.2.1 (hC.2.2.2.2 _ hcl) (va_AO.use hover) rfl hdg rfl (nI_pos (by omega)) (by rw [hz]; omega) hcells (by rw [hz]; exact hslots) fun cA2 kA comp f1 f2 f3 f4 => ?_
  obtain ⟨kA1, comp1, -, -, -, g4⟩ := (hK.1.2 t0 _ ht).2
  have hA : cA2 = cA := Option.some.inj (f1.symm.trans g4)
  subst hA
  rw [hz]
  refine kk H.size _ rfl ?_ (by rw [Array.size_push]) (fun z hq => by rw [Array.getElem?_push, if_neg (Nat.ne_of_lt hq)]) ⟨Nat.le_trans hS.1 (by rw [Array.size_push]; omega), fun x h1 h2 => ?_, hS.2.2⟩
  · show (H.push _)[H.size]? = some (vp_cell cA2 (n, .inr (.inr (.inr (.inr (fun _ => none))))))
    rw [Array.getElem?_push_size, vp_cell_q]
    exact congrArg some (arrV_new _ _ _)
  · rw [Array.getElem?_push, if_neg (Nat.ne_of_lt (Nat.lt_of_lt_of_le h1 hS.1))]
    exact hS.2.1 x h1 h2
end WO4
theorem bl_X0 : ∀ j, j < 4 → defaultValue (tyX0 j) = vp_V [.int (nI 0), .int (nI 0), .null, .null] j := by
  intro j hj
  rcases (show j = 0 ∨ j = 1 ∨ j = 2 ∨ j = 3 by omega) with q | q | q | q <;> subst q <;> rfl
theorem bl_X1 : ∀ j, j < 5 → defaultValue (tyX1 j) = vp_V [.int (nI 0), .int (nI 0), .int (nI 0), .null, .null] j := by
  intro j hj
  rcases (show j = 0 ∨ j = 1 ∨ j = 2 ∨ j = 3 ∨ j = 4 by omega) with q | q | q | q | q <;> subst q <;> rfl
theorem bl_X2 : ∀ j, j < 4 → defaultValue (tyX2 j) = vp_V [.int (nI 0), .int (nI 0), .int (nI 0), .int (nI 0)] j := by
  intro j hj
  rcases (show j = 0 ∨ j = 1 ∨ j = 2 ∨ j = 3 by omega) with q | q | q | q <;> subst q <;> rfl
theorem bl_X3 : ∀ j, j < 13 → defaultValue (tyX3 j) = vp_V [.int (nI 0), .int (nI 0), .int (nI 0), .int (nI 0), .int (nI 0), .int (nI 0), .int (nI 0), .int (nI 0), .null, .null, .null, .null, .int (nI 0)] j := by
  intro j hj
  rcases (show j = 0 ∨ j = 1 ∨ j = 2 ∨ j = 3 ∨ j = 4 ∨ j = 5 ∨ j = 6 ∨ j = 7 ∨ j = 8 ∨ j = 9 ∨ j = 10 ∨ j = 11 ∨ j = 12 by omega) with q | q | q | q | q | q | q | q | q | q | q | q | q <;> subst q <;> rfl
theorem bl_X4 : ∀ j, j < 7 → defaultValue (tyX4 j) = vp_V [.null, .null, .int (nI 0), .null, .null, .null, .null] j := by
  intro j hj
  rcases (show j = 0 ∨ j = 1 ∨ j = 2 ∨ j = 3 ∨ j = 4 ∨ j = 5 ∨ j = 6 by omega) with q | q | q | q | q | q | q <;> subst q <;> rfl
set_option maxHeartbeats 4000000 in
set_option maxRecDepth 100000 in
theorem c_X2_init (l : Launch) (g : kG) (ye : Nat) (sz : Nat) : MV l yX2_init cX2_init 1 none (rr 1 14) [.ref ye] ((fun H => H.size = sz ∧ va_at g.1 kCl (cE ye (nI 0) (nI 0) (nI 0) (nI 0)) H)) g 0 0 (fun z => z = ye) (fun H1 => H1.size = sz ∧ va_P g.1 kCl [cE ye (nI 0) (nI 8) (nI 18) (nI 4)] H1) := by
  refine kOf (by decide) (Nat.le_of_ble_eq_true rfl) (fun p e s m below meth c ls hC hr hlk hin hK hP hl => ?_)
  have hx := hC.1
  have hb := hC.2.1
  have hml := hC.2.2.1
  have hown := hC.2.2.2.1
  have hts := hC.2.2.2.2
  have hl : lv_has ls 1 [(0, .ref ye)] := hl
  obtain ⟨hsz, hv0⟩ := hP
  have hS : va_S (fun z => z = ye) s.heap s.heap [] := va_S.rf
  refine lv_aload_n hx hb dX2_init_0 rfl (lvG hl rfl) ?_
  refine W.objInit hx hb hown (hts _ w_67) (hts _ w_38) (hts _ w_39) rfl (by rw [hml]; exact hl.1) rfl dX2_init_1 (Nat.le_of_ble_eq_true rfl) (Nat.le_of_ble_eq_true rfl) ?_
  refine W.eq (g2 := F0 m 4 ls []) rfl ?_
  refine lv_aload_n hx hb dX2_init_4 rfl (lvG hl rfl) ?_
  refine lv_iconst (v := nI 0) hx hb dX2_init_5 (by decide) ?_
  refine k_putO (ci := 2) (v := .int (nI 0)) (ty := .int) (C := RX2) (T := TX2) (N := 4) hC hK i_X2 tyX2 tyX2_ok nmX2 ((va_one hv0)) (D1 (A := fun z => z = ye) (show ye = ye by omega)) hS 0 rfl rfl 0 (by decide) w_68 (fun _ h9 => h9) rfl (by decide +kernel) rfl rfl (Nat.le_of_ble_eq_true rfl) dX2_init_6 (fun H_1 locs_2 hP_3 hD_4 hS_5 hz_6 hk_7 => ?_)
  have hv_8 : va_at g.1 kCl ((ye, .inr (2, [.int (nI 0), .int (nI 0), .int (nI 0), .int (nI 0)]))) H_1 := hP_3 0 _ rfl
  refine lv_aload_n hx hb dX2_init_9 rfl (lvG hl rfl) ?_
  refine lv_bipush (v := nI 8) hx hb dX2_init_10 (by decide) ?_
  refine k_putO (ci := 2) (v := .int (nI 8)) (ty := .int) (C := RX2) (T := TX2) (N := 4) hC hK i_X2 tyX2 tyX2_ok nmX2 ((va_one hv_8)) (D1 (A := fun z => z = ye) (show ye = ye by omega)) hS_5 0 rfl rfl 1 (by decide) w_70 (fun _ h9 => h9) rfl (by decide +kernel) rfl rfl (Nat.le_of_ble_eq_true rfl) dX2_init_12 (fun H_9 locs_10 hP_11 hD_12 hS_13 hz_14 hk_15 => ?_)
  have hv_16 : va_at g.1 kCl ((ye, .inr (2, [.int (nI 0), .int (nI 8), .int (nI 0), .int (nI 0)]))) H_9 := hP_11 0 _ rfl
  refine lv_aload_n hx hb dX2_init_15 rfl (lvG hl rfl) ?_
  refine lv_bipush (v := nI 18) hx hb dX2_init_16 (by decide) ?_
  refine k_putO (ci := 2) (v := .int (nI 18)) (ty := .int) (C := RX2) (T := TX2) (N := 4) hC hK i_X2 tyX2 tyX2_ok nmX2 ((va_one hv_16)) (D1 (A := fun z => z = ye) (show ye = ye by omega)) hS_13 0 rfl rfl 2 (by decide) w_72 (fun _ h9 => h9) rfl (by decide +kernel) rfl rfl (Nat.le_of_ble_eq_true rfl) dX2_init_18 (fun H_17 locs_18 hP_19 hD_20 hS_21 hz_22 hk_23 => ?_)
  have hv_24 : va_at g.1 kCl ((ye, .inr (2, [.int (nI 0), .int (nI 8), .int (nI 18), .int (nI 0)]))) H_17 := hP_19 0 _ rfl
  refine lv_aload_n hx hb dX2_init_21 rfl (lvG hl rfl) ?_
  refine lv_iconst (v := nI 4) hx hb dX2_init_22 (by decide) ?_
  refine k_putO (ci := 2) (v := .int (nI 4)) (ty := .int) (C := RX2) (T := TX2) (N := 4) hC hK i_X2 tyX2 tyX2_ok nmX2 ((va_one hv_24)) (D1 (A := fun z => z = ye) (show ye = ye by omega)) hS_21 0 rfl rfl 3 (by decide) w_74 (fun _ h9 => h9) rfl (by decide +kernel) rfl rfl (Nat.le_of_ble_eq_true rfl) dX2_init_23 (fun H_25 locs_26 hP_27 hD_28 hS_29 hz_30 hk_31 => ?_)
  have hv_32 : va_at g.1 kCl ((ye, .inr (2, [.int (nI 0), .int (nI 8), .int (nI 18), .int (nI 4)]))) H_25 := hP_27 0 _ rfl
  have hAll : va_P g.1 kCl [(ye, .inr (2, [.int (nI 0), .int (nI 8), .int (nI 18), .int (nI 4)]))] H_25 := (va_one hv_32)
  exact k_vretM hC hr hlk hS_29 dX2_init_26 (⟨by omega, hAll⟩)
set_option maxHeartbeats 4000000 in
set_option maxRecDepth 100000 in
theorem c_X0_init (l : Launch) (g : kG) (qc : Nat) (sz : Nat) : MV l yX0_init cX0_init 1 none (rc 1 14 2 42) [.ref qc] ((fun H => H.size = sz ∧ va_at g.1 kCl (qc, .inr (0, [.int (nI 0), .int (nI 0), .null, .null])) H)) g 2 42 (fun z => z = qc ∨ sz ≤ z) (fun H1 => H1.size = sz + 2 ∧ va_P g.1 kCl (wC g qc sz (sz + 1) (nI 0) (nI 0) (fun _ => nI 0)) H1) := by
  refine kOf (by decide) (Nat.le_of_ble_eq_true rfl) (fun p e s m below meth c ls hC hr hlk hin hK hP hl => ?_)
  have hx := hC.1
  have hb := hC.2.1
  have hml := hC.2.2.1
  have hown := hC.2.2.2.1
  have hts := hC.2.2.2.2
  have hl : lv_has ls 1 [(0, .ref qc)] := hl
  obtain ⟨hsz, hv0⟩ := hP
  have hq0 := hv0.lt
  have hS : va_S (fun z => z = qc ∨ sz ≤ z) s.heap s.heap [] := va_S.rf
  refine lv_aload_n hx hb dX0_init_0 rfl (lvG hl rfl) ?_
  refine W.objInit hx hb hown (hts _ w_45) (hts _ w_38) (hts _ w_39) rfl (by rw [hml]; exact hl.1) rfl dX0_init_1 (Nat.le_of_ble_eq_true rfl) (Nat.le_of_ble_eq_true rfl) ?_
  refine W.eq (g2 := F0 m 4 ls []) rfl ?_
  refine lv_aload_n hx hb dX0_init_4 rfl (lvG hl rfl) ?_
  refine lv_bipush (v := nI 21) hx hb dX0_init_5 (by decide) ?_
  refine k_newaO (n := 21) hC hK w_61 hS (by decide) (Nat.le_of_ble_eq_true rfl) (Nat.le_of_ble_eq_true rfl) dX0_init_7 (fun q_1 H_2 eq_3 hv_4 hz_5 hk_6 hS_7 => ?_)
  have hv_8 : va_at g.1 kCl ((qc, .inr (0, [.int (nI 0), .int (nI 0), .null, .null]))) H_2 := va_at.kept hv0 (hk_6 _ hv0.lt)
  refine k_putFO (ci := 0) (v := .ref q_1) (ty := .array .int) (C := RX0) (T := TX0) (N := 4) hC hK i_X0 tyX0 tyX0_ok nmX0 ((va_one hv_8)) (D1 (A := fun z => z = qc ∨ sz ≤ z) (show qc = qc ∨ sz ≤ qc by omega)) hS_7 0 rfl rfl 2 (by decide) w_48 (fun _ h9 => h9) rfl hin rfl (by decide +kernel) rfl rfl (Nat.le_of_ble_eq_true rfl) dX0_init_9 (fun H_9 locs_10 hP_11 hD_12 hS_13 hz_14 hk_15 => ?_)
  have hv_16 : va_at g.1 kCl (cI g q_1 21 ((fun _ => nI 0))) H_9 := va_at.kept hv_4 (hk_15 q_1 (by omega))
  have hv_17 : va_at g.1 kCl ((qc, .inr (0, [.int (nI 0), .int (nI 0), .ref q_1, .null]))) H_9 := hP_11 0 _ rfl
  refine lv_aload_n hx hb dX0_init_12 rfl (lvG hl rfl) ?_
  refine lv_bipush (v := nI 21) hx hb dX0_init_13 (by decide) ?_
  refine k_newaO (n := 21) hC hK w_61 hS_13 (by decide) (Nat.le_of_ble_eq_true rfl) (Nat.le_of_ble_eq_true rfl) dX0_init_15 (fun q_18 H_19 eq_20 hv_21 hz_22 hk_23 hS_24 => ?_)
  have hv_25 : va_at g.1 kCl ((qc, .inr (0, [.int (nI 0), .int (nI 0), .ref q_1, .null]))) H_19 := va_at.kept hv_17 (hk_23 _ hv_17.lt)
  have hv_26 : va_at g.1 kCl (cI g q_1 21 ((fun _ => nI 0))) H_19 := va_at.kept hv_16 (hk_23 _ hv_16.lt)
  refine k_putFO (ci := 0) (v := .ref q_18) (ty := .array .int) (C := RX0) (T := TX0) (N := 4) hC hK i_X0 tyX0 tyX0_ok nmX0 ((va_one hv_25)) (D1 (A := fun z => z = qc ∨ sz ≤ z) (show qc = qc ∨ sz ≤ qc by omega)) hS_24 0 rfl rfl 3 (by decide) w_50 (fun _ h9 => h9) rfl hin rfl (by decide +kernel) rfl rfl (Nat.le_of_ble_eq_true rfl) dX0_init_17 (fun H_27 locs_28 hP_29 hD_30 hS_31 hz_32 hk_33 => ?_)
  have hv_34 : va_at g.1 kCl (cI g q_1 21 ((fun _ => nI 0))) H_27 := va_at.kept hv_26 (hk_33 q_1 (by omega))
  have hv_35 : va_at g.1 kCl (cI g q_18 21 ((fun _ => nI 0))) H_27 := va_at.kept hv_21 (hk_33 q_18 (by omega))
  have hv_36 : va_at g.1 kCl ((qc, .inr (0, [.int (nI 0), .int (nI 0), .ref q_1, .ref q_18]))) H_27 := hP_29 0 _ rfl
  have hAll : va_P g.1 kCl [(qc, .inr (0, [.int (nI 0), .int (nI 0), .ref q_1, .ref q_18])), cI g q_1 21 ((fun _ => nI 0)), cI g q_18 21 ((fun _ => nI 0))] H_27 := (va_P.app (va_one hv_36) (va_P.app (va_one hv_34) (va_one hv_35)))
  have ez1 : q_1 = sz := by omega
  have ez2 : q_18 = sz + 1 := by omega
  try rw [ez1] at hAll
  try rw [ez2] at hAll
  refine W.widen (k := 2) (n := 42) (by omega) (by omega) ?_
  exact k_vretM hC hr hlk hS_31 dX0_init_20 (⟨by omega, hAll⟩)
set_option maxHeartbeats 4000000 in
set_option maxRecDepth 100000 in
theorem c_X1_init (l : Launch) (g : kG) (qc : Nat) (sz : Nat) : MV l yX1_init cX1_init 1 none (rc 1 14 2 42) [.ref qc] ((fun H => H.size = sz ∧ va_at g.1 kCl (qc, .inr (1, [.int (nI 0), .int (nI 0), .int (nI 0), .null, .null])) H)) g 2 42 (fun z => z = qc ∨ sz ≤ z) (fun H1 => H1.size = sz + 2 ∧ va_P g.1 kCl [(qc, .inr (1, [.int (nI 0), .int (nI 0), .int (nI 0), .ref sz, .ref (sz + 1)])), cI g sz 21 (fun _ => nI 0), cI g (sz + 1) 21 (fun _ => nI 0)] H1) := by
  refine kOf (by decide) (Nat.le_of_ble_eq_true rfl) (fun p e s m below meth c ls hC hr hlk hin hK hP hl => ?_)
  have hx := hC.1
  have hb := hC.2.1
  have hml := hC.2.2.1
  have hown := hC.2.2.2.1
  have hts := hC.2.2.2.2
  have hl : lv_has ls 1 [(0, .ref qc)] := hl
  obtain ⟨hsz, hv0⟩ := hP
  have hq0 := hv0.lt
  have hS : va_S (fun z => z = qc ∨ sz ≤ z) s.heap s.heap [] := va_S.rf
  refine lv_aload_n hx hb dX1_init_0 rfl (lvG hl rfl) ?_
  refine W.objInit hx hb hown (hts _ w_98) (hts _ w_38) (hts _ w_39) rfl (by rw [hml]; exact hl.1) rfl dX1_init_1 (Nat.le_of_ble_eq_true rfl) (Nat.le_of_ble_eq_true rfl) ?_
  refine W.eq (g2 := F0 m 4 ls []) rfl ?_
  refine lv_aload_n hx hb dX1_init_4 rfl (lvG hl rfl) ?_
  refine lv_bipush (v := nI 21) hx hb dX1_init_5 (by decide) ?_
  refine k_newaO (n := 21) hC hK w_61 hS (by decide) (Nat.le_of_ble_eq_true rfl) (Nat.le_of_ble_eq_true rfl) dX1_init_7 (fun q_1 H_2 eq_3 hv_4 hz_5 hk_6 hS_7 => ?_)
  have hv_8 : va_at g.1 kCl ((qc, .inr (1, [.int (nI 0), .int (nI 0), .int (nI 0), .null, .null]))) H_2 := va_at.kept hv0 (hk_6 _ hv0.lt)
  refine k_putFO (ci := 1) (v := .ref q_1) (ty := .array .int) (C := RX1) (T := TX1) (N := 5) hC hK i_X1 tyX1 tyX1_ok nmX1 ((va_one hv_8)) (D1 (A := fun z => z = qc ∨ sz ≤ z) (show qc = qc ∨ sz ≤ qc by omega)) hS_7 0 rfl rfl 3 (by decide) w_105 (fun _ h9 => h9) rfl hin rfl (by decide +kernel) rfl rfl (Nat.le_of_ble_eq_true rfl) dX1_init_9 (fun H_9 locs_10 hP_11 hD_12 hS_13 hz_14 hk_15 => ?_)
  have hv_16 : va_at g.1 kCl (cI g q_1 21 ((fun _ => nI 0))) H_9 := va_at.kept hv_4 (hk_15 q_1 (by omega))
  have hv_17 : va_at g.1 kCl ((qc, .inr (1, [.int (nI 0), .int (nI 0), .int (nI 0), .ref q_1, .null]))) H_9 := hP_11 0 _ rfl
  refine lv_aload_n hx hb dX1_init_12 rfl (lvG hl rfl) ?_
  refine lv_bipush (v := nI 21) hx hb dX1_init_13 (by decide) ?_
  refine k_newaO (n := 21) hC hK w_61 hS_13 (by decide) (Nat.le_of_ble_eq_true rfl) (Nat.le_of_ble_eq_true rfl) dX1_init_15 (fun q_18 H_19 eq_20 hv_21 hz_22 hk_23 hS_24 => ?_)
  have hv_25 : va_at g.1 kCl ((qc, .inr (1, [.int (nI 0), .int (nI 0), .int (nI 0), .ref q_1, .null]))) H_19 := va_at.kept hv_17 (hk_23 _ hv_17.lt)
  have hv_26 : va_at g.1 kCl (cI g q_1 21 ((fun _ => nI 0))) H_19 := va_at.kept hv_16 (hk_23 _ hv_16.lt)
  refine k_putFO (ci := 1) (v := .ref q_18) (ty := .array .int) (C := RX1) (T := TX1) (N := 5) hC hK i_X1 tyX1 tyX1_ok nmX1 ((va_one hv_25)) (D1 (A := fun z => z = qc ∨ sz ≤ z) (show qc = qc ∨ sz ≤ qc by omega)) hS_24 0 rfl rfl 4 (by decide) w_107 (fun _ h9 => h9) rfl hin rfl (by decide +kernel) rfl rfl (Nat.le_of_ble_eq_true rfl) dX1_init_17 (fun H_27 locs_28 hP_29 hD_30 hS_31 hz_32 hk_33 => ?_)
  have hv_34 : va_at g.1 kCl (cI g q_1 21 ((fun _ => nI 0))) H_27 := va_at.kept hv_26 (hk_33 q_1 (by omega))
  have hv_35 : va_at g.1 kCl (cI g q_18 21 ((fun _ => nI 0))) H_27 := va_at.kept hv_21 (hk_33 q_18 (by omega))
  have hv_36 : va_at g.1 kCl ((qc, .inr (1, [.int (nI 0), .int (nI 0), .int (nI 0), .ref q_1, .ref q_18]))) H_27 := hP_29 0 _ rfl
  have hAll : va_P g.1 kCl [(qc, .inr (1, [.int (nI 0), .int (nI 0), .int (nI 0), .ref q_1, .ref q_18])), cI g q_1 21 ((fun _ => nI 0)), cI g q_18 21 ((fun _ => nI 0))] H_27 := (va_P.app (va_one hv_36) (va_P.app (va_one hv_34) (va_one hv_35)))
  have ez1 : q_1 = sz := by omega
  have ez2 : q_18 = sz + 1 := by omega
  try rw [ez1] at hAll
  try rw [ez2] at hAll
  refine W.widen (k := 2) (n := 42) (by omega) (by omega) ?_
  exact k_vretM hC hr hlk hS_31 dX1_init_20 (⟨by omega, hAll⟩)
