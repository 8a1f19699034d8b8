/-! the law's small methods: a cell of the script, a number below n -/
def v_low (v n : Int32) : Int32 := (v &&& nI 2147483647) - (v &&& nI 2147483647) / n * n
def v_cel (L : Nat) (xs : Nat → Int32) (k : Nat) : Int32 := if k < L then xs k else nI 7919 * nI (k + 11) * nI (k + 37)
theorem low_in (v : Int32) {k : Nat} (h0 : 0 < k) (hk : k < 2 ^ 31) : ∃ j, j < k ∧ v_low v (nI k) = nI j := by
  obtain ⟨z, e⟩ : ∃ z, v = nI z := ⟨v.toBitVec.toNat, Int32.toBitVec_inj.mp (by show v.toBitVec = BitVec.ofNat 32 v.toBitVec.toNat; simp)⟩
  have e2 : v &&& nI 2147483647 = nI (z % 2 ^ 31) := by rw [e]; exact fa_mask z 31
  refine ⟨z % 2 ^ 31 % k, Nat.mod_lt _ h0, ?_⟩
  unfold v_low
  rw [e2]
  exact pk_rem (Nat.mod_lt _ (by decide)) h0 hk
theorem vx_mv {b L : Nat} {xs : Nat → Int32} {u U : State} {H : Heap} (h : va_X b L xs u H) (hv : u.vm.Alike U.vm) : va_X b L xs U H := by
  obtain ⟨scr, h1, h2, h3, h4, h5⟩ := h
  exact ⟨scr, h1, State.isArrayOf_alike hv h2, h3, h4, h5⟩
abbrev xPc (as : List Value) (b L : Nat) (xs : Nat → Int32) (g : kG) : Array Value → State → Prop := va_Pc as (fun U => va_X b L xs U U.heap ∧ KK g U)
theorem xPc_blind {as : List Value} {b L : Nat} {xs : Nat → Int32} {g : kG} : FrameBlind (xPc as b L xs g) := fun a U gg mk q => ⟨q.1, q.2.1, KK.same (u := U) (U := U.calling gg mk a) rfl q.2.2⟩
set_option maxHeartbeats 4000000 in
theorem c_L_cell (l : Launch) (g : kG) (b L : Nat) (xs : Nat → Int32) (hL : L ≤ 260) (k : Nat) (hk : k ≤ 1000) : Met l yL_cell (kw yL_cell cL_cell 2 (some .int)) (rr 0 0) (xPc [.ref b, .int (nI k)] b L xs g) (vp_Si (fun r => r = v_cel L xs k)) 0 0 (fun _ => False) := by
  refine Met.ofW (cc := cL_cell) (maxL := 2) (ret := some .int) (by decide) rfl ?_
  intro p e s m args below meth c s₁ B hml hv
  obtain ⟨rfl, hXs, hK⟩ := hv
  have hts0 := atoms_spec (ws := kw yL_cell cL_cell 2 (some .int)) B.pre
  have hts : ∀ w ∈ lw_good, w.before ([.ref b, .int (nI k)] : List Value).toArray s = true := fun w hw => hts0 w (List.mem_cons_of_mem _ hw)
  have hown : s.vm.findClass yL_cell.cls = some m.cls := findClass_of_methodNamed B.named
  have hr := B.returns
  have hlk := B.notSynchronized
  have hC : CallFix p m c cL_cell 2 s ([.ref b, .int (nI k)] : List Value).toArray lw_good yL_cell.cls := ⟨B.exec, B.bytes, hml, hown, hts⟩
  have hbl : b < s.heap.size := by
    obtain ⟨scr, h1, -⟩ := hXs
    exact (Array.getElem?_eq_some_iff.mp h1).1
  have hl := lv_entry ([.ref b, .int (nI k)]) (n := 2) (Nat.le_of_ble_eq_true rfl)
  rw [lg_entry_eq]
  generalize (lg_sl ([.ref b, .int (nI k)]) ++ List.replicate (2 - (lg_sl ([.ref b, .int (nI k)])).length) Slot.unset).toArray = ls at hl ⊢
  have hl : lv_has ls 2 [(0, .ref b), (1, .int (nI k))] := hl
  have hx := hC.1
  have hb := hC.2.1
  have hS : va_S (fun _ => False) s.heap s.heap [] := va_S.rf
  refine lv_iload_n hx hb dL_cell_0 rfl (lvG hl rfl) ?_
  refine lv_aload_n hx hb dL_cell_1 rfl (lvG hl rfl) ?_
  refine va_slen hx hb hXs hbl (fun q => q) hS dL_cell_2 ?_
  have hkL : W p l e (rr 0 0) s m ([.ref b, .int (nI k)] : List Value).toArray below meth c s.heap [] 0 0 (MQ below (vp_Si (fun r => r = v_cel L xs k)) ([.ref b, .int (nI k)] : List Value).toArray s 0 0 (fun _ => False)) (F0 m 3 ls [.int (nI L), .int (nI k)]) := by
    refine n_icmp_ge (tgt := 12) hC dL_cell_3 (by omega) (by omega) (by decide) (fun zc => ?_) (fun zc => ?_)
    · refine lv_sipush (v := nI 7919) hx hb dL_cell_12 (by decide) ?_
      refine lv_iload_n hx hb dL_cell_15 rfl (lvG hl rfl) ?_
      refine lv_bipush (v := nI 11) hx hb dL_cell_16 (by decide) ?_
      refine n_iadd hC dL_cell_18 ?_
      refine lv_imul hx hb dL_cell_19 ?_
      refine lv_iload_n hx hb dL_cell_20 rfl (lvG hl rfl) ?_
      refine lv_bipush (v := nI 37) hx hb dL_cell_21 (by decide) ?_
      refine n_iadd hC dL_cell_23 ?_
      refine lv_imul hx hb dL_cell_24 ?_
      exact k_iret hC hr hlk dL_cell_25 (if_neg (by omega)).symm
    · refine lv_aload_n hx hb dL_cell_6 rfl (lvG hl rfl) ?_
      refine lv_iload_n hx hb dL_cell_7 rfl (lvG hl rfl) ?_
      refine va_sld hx hb hXs hbl (fun q => q) hS (vp_in_nI (by omega) (by omega)) dL_cell_8 ?_
      rw [nI_clamp (by omega)]
      refine lv_goto (tgt := 25) hx hb dL_cell_9 (by decide) ?_
      exact k_iret hC hr hlk dL_cell_25 (if_pos (by omega)).symm
  exact hkL
section LX
variable {p : Program} {l : Launch} {e : Env} {R : Room} {s : State} {m : MethodId} {args : Array Value} {below : List Frame} {meth : Method} {c : Code} {H : Heap} {locs : List Loc} {cells slots : Nat} {Q : State → Prop}
variable {cc : ByteArray} {pc nL : Nat} {ls : Array Slot} {own : String} {g : kG}
theorem k_zretM {v : Int32} {A : Nat → Prop} {post : Int32 → Heap → Prop} (hC : CallFix p m c cc nL s args lw_good own) (hr : meth.sig.returnType = some .boolean) (hlk : meth.locks = false) (hS : va_S A s.heap H locs) (hdg : decode cc pc = .ok (.ireturn, 1)) (hn : narrow .boolean (.int v) = .int v) (hv : post v H) : W p l e R s m args below meth c H locs cells slots (MQ below (qI A post) args s cells slots A) (F0 m pc ls [.int v]) :=
  W.zret hC.1 hC.2.1 hr hn (fun t ht _ => ⟨⟨v, v, rfl, rfl, by show post v t.heap; rw [ht]; exact hv⟩, hS.F ht⟩) hS.2.2 hdg hlk
/-- the call of cell -/
theorem x_cell {rest : List Value} {b L : Nat} {xs : Nat → Int32} {k idx : Nat} (hC : CallFix p m c cc nL s args lw_good own) (hK : KK g s) (hL : L ≤ 260) (hk : k ≤ 1000) (lk : LnkS own idx yL_cell cL_cell 2 (some .int) 2) (hR : RmOk (rr 0 0) R 2 0 0 cells slots) (hXs : va_X b L xs s s.heap) (hbl : b < s.heap.size) (hS : va_S (fun z => s.heap.size ≤ z) s.heap H locs) (hsz : ls.size = nL) (hW : (rest.map fun v => v.category).sum ≤ 8) (hdg : decode cc pc = .ok (.invokestatic idx, 3))
    (kk : W p l e R s m args below meth c H locs cells slots Q (F0 m (pc + 3) ls (.int (v_cel L xs k) :: rest))) : W p l e R s m args below meth c H locs cells slots Q (F0 m pc ls (.int (nI k) :: .ref b :: rest)) := by
  have hXH : va_X b L xs s H := by
    obtain ⟨scr, h1, h2⟩ := hXs
    exact ⟨scr, (hS.2.1 b hbl (Nat.not_le.mpr hbl)).trans h1, h2⟩
  exact k_callPI (va_runS (As := [.ref b, .int (nI k)]) (rest := rest) hC (c_L_cell l g b L xs hL k hk) (va_cwS 2 hC.2.2.2.2 lk.good rfl hR.2.1.1 hR.2.1.2 ⟨lk.2.2.2.2.1.1, lk.2.2.2.2.1.2, lk.2.2.2.2.2⟩ hR.1) ⟨xPc_blind, fun U hU hW => ⟨rfl, (by rw [hU]; exact vx_mv hXH hW.alike), hK.moved hW⟩⟩ rfl rfl hsz rfl (lv_room hW) hdg hR.2.2) kk
end LX
set_option maxHeartbeats 4000000 in
set_option maxRecDepth 100000 in
theorem c_L_low (l : Launch) (g : kG) (v : Int32) (n : Int32) (hn : ¬ n = nI 0) : PI l yL_low cL_low 2 (some .int) (rr 0 0) [.int (v), .int (n)] ((fun _ => True)) g (v_low v n) := by
  refine kOf (by decide) (Nat.le_of_ble_eq_true rfl) (fun p e s m below meth c ls hC hr hlk hin hK hP hl => ?_)
  have hx := hC.1
  have hb := hC.2.1
  have hml := hC.2.2.1
  have hown := hC.2.2.2.1
  have hts := hC.2.2.2.2
  have hl : lv_has ls 2 [(0, .int (v)), (1, .int (n))] := hl
  refine lv_iload_n hx hb dL_low_0 rfl (lvG hl rfl) ?_
  refine lv_ldc (v := nI 2147483647) hx hb hown (hts _ w_415) dL_low_1 ?_
  refine lv_iand hx hb dL_low_3 ?_
  refine lv_iload_n hx hb dL_low_4 rfl (lvG hl rfl) ?_
  refine lv_irem hx hb dL_low_5 (hn) ?_
  exact k_iret hC hr hlk dL_low_6 (rfl)
theorem w_q_valve (l : Launch) (g : kG) (x : Nat → Nat) (a : Nat → Nat) (n : Nat) (f : Nat → Int32) (cn : Nat) (rf : Nat → Option Nat) (hQ : QF f cn) (en : Int32) (ev : Int32) : PI l yX4_valve cX4_valve 3 (some .int) (rr 2 42) [.ref (x 0), .int (en), .int (ev)] (XB g x a n f cn rf) g (s_vaR f en ev) :=
  c_X4_valve l g x a n f cn rf hQ.2.1 hQ.1 en ev
theorem w_q_cardCount (l : Launch) (g : kG) (x : Nat → Nat) (a : Nat → Nat) (n : Nat) (f : Nat → Int32) (cn : Nat) (rf : Nat → Option Nat) (hQ : QF f cn) : PI l yX4_cardCount cX4_cardCount 1 (some .int) (rr 0 0) [.ref (x 0)] (XB g x a n f cn rf) g (nI cn) := by
  have h := c_X4_cardCount l g x a n f cn rf hQ.2.1 hQ.1
  rw [hQ.2.1] at h
  exact h
theorem w_q_end (l : Launch) (g : kG) (x : Nat → Nat) (a : Nat → Nat) (n : Nat) (f : Nat → Int32) (cn : Nat) (rf : Nat → Option Nat) (hQ : QF f cn) (v : Int32) : PI l yX4_end cX4_end 2 (some .int) (rr 1 21) [.ref (x 0), .int (v)] (XB g x a n f cn rf) g (q_end f v) :=
  c_X4_end l g x a n f cn rf hQ.2.1 hQ.1 v
theorem w_q_speed (l : Launch) (g : kG) (x : Nat → Nat) (a : Nat → Nat) (n : Nat) (f : Nat → Int32) (cn : Nat) (rf : Nat → Option Nat) (hQ : QF f cn) (v : Int32) : PI l yX4_speed cX4_speed 2 (some .int) (rr 1 21) [.ref (x 0), .int (v)] (XB g x a n f cn rf) g (q_spd f v) :=
  c_X4_speed l g x a n f cn rf hQ.2.1 hQ.1 v
theorem w_q_pressure (l : Launch) (g : kG) (x : Nat → Nat) (a : Nat → Nat) (n : Nat) (f : Nat → Int32) (cn : Nat) (rf : Nat → Option Nat) (hQ : QF f cn) (v : Int32) (st : Int32) (sa : Int32) : PI l yX4_pressure cX4_pressure 4 (some .int) (rr 2 42) [.ref (x 0), .int (v), .int (st), .int (sa)] (XB g x a n f cn rf) g (q_prs f v st sa) :=
  c_X4_pressure l g x a n f cn rf hQ.2.1 hQ.1 v st sa
theorem w_q_area (l : Launch) (g : kG) (x : Nat → Nat) (a : Nat → Nat) (n : Nat) (f : Nat → Int32) (cn : Nat) (rf : Nat → Option Nat) (hQ : QF f cn) (v : Int32) : PI l yX4_area cX4_area 2 (some .int) (rr 2 43) [.ref (x 0), .int (v)] (XB g x a n f cn rf) g (q_are f v) :=
  c_X4_area l g x a n f cn rf hQ.2.1 hQ.1 v
theorem w_q_forwardArea (l : Launch) (g : kG) (x : Nat → Nat) (a : Nat → Nat) (n : Nat) (f : Nat → Int32) (cn : Nat) (rf : Nat → Option Nat) (hQ : QF f cn) (v : Int32) : PI l yX4_forwardArea cX4_forwardArea 2 (some .int) (rr 4 88) [.ref (x 0), .int (v)] (XB g x a n f cn rf) g (q_fwa f v) :=
  c_X4_forwardArea l g x a n f cn rf hQ.2.1 hQ.1 v hQ.R
theorem w_q_loopArea (l : Launch) (g : kG) (x : Nat → Nat) (a : Nat → Nat) (n : Nat) (f : Nat → Int32) (cn : Nat) (rf : Nat → Option Nat) (hQ : QF f cn) (v : Int32) : PI l yX4_loopArea cX4_loopArea 2 (some .int) (rr 4 88) [.ref (x 0), .int (v)] (XB g x a n f cn rf) g (q_loa f v) :=
  c_X4_loopArea l g x a n f cn rf hQ.2.1 hQ.1 v hQ.R
theorem w_q_loopStations (l : Launch) (g : kG) (x : Nat → Nat) (a : Nat → Nat) (n : Nat) (f : Nat → Int32) (cn : Nat) (rf : Nat → Option Nat) (hQ : QF f cn) (v : Int32) : PI l yX4_loopStations cX4_loopStations 2 (some .int) (rr 2 43) [.ref (x 0), .int (v)] (XB g x a n f cn rf) g (q_los f v) :=
  c_X4_loopStations l g x a n f cn rf hQ.2.1 hQ.1 v
theorem w_q_meanPressure (l : Launch) (g : kG) (x : Nat → Nat) (a : Nat → Nat) (n : Nat) (f : Nat → Int32) (cn : Nat) (rf : Nat → Option Nat) (hQ : QF f cn) (v : Int32) : PI l yX4_meanPressure cX4_meanPressure 2 (some .int) (rr 2 43) [.ref (x 0), .int (v)] (XB g x a n f cn rf) g (q_mpr f v) :=
  c_X4_meanPressure l g x a n f cn rf hQ.2.1 hQ.1 v hQ.R
theorem w_q_power (l : Launch) (g : kG) (x : Nat → Nat) (a : Nat → Nat) (n : Nat) (f : Nat → Int32) (cn : Nat) (rf : Nat → Option Nat) (hQ : QF f cn) (v : Int32) : PL l yX4_power cX4_power 2 (some .long) (rr 4 94) [.ref (x 0), .int (v)] (XB g x a n f cn rf) g (q_pow f v) :=
  c_X4_power l g x a n f cn rf hQ.2.1 hQ.1 v hQ.E
theorem w_q_event (l : Launch) (g : kG) (x : Nat → Nat) (a : Nat → Nat) (n : Nat) (f : Nat → Int32) (cn : Nat) (rf : Nat → Option Nat) (hQ : QF f cn) (v : Int32) (ev : Int32) : MI l yX4_event cX4_event 3 (some .int) (rr 4 88) [.ref (x 0), .int (v), .int (ev)] (fun H => XB g x a n f cn rf H ∧ XS g x H) g 0 0 (SC x) (fun r H1 => r = (q_evn f v ev) ∧ XS g x H1) :=
  c_X4_event l g x a n f cn rf hQ.2.1 hQ.1 v ev hQ.X
theorem w_q_lateness (l : Launch) (g : kG) (x : Nat → Nat) (a : Nat → Nat) (n : Nat) (f : Nat → Int32) (cn : Nat) (rf : Nat → Option Nat) (hQ : QF f cn) (v : Int32) (ev : Int32) : MI l yX4_lateness cX4_lateness 3 (some .int) (rr 4 88) [.ref (x 0), .int (v), .int (ev)] (fun H => XB g x a n f cn rf H ∧ XS g x H) g 0 0 (SC x) (fun r H1 => r = (q_lat f v ev) ∧ XS g x H1) :=
  c_X4_lateness l g x a n f cn rf hQ.2.1 hQ.1 v ev hQ.X hQ.E
theorem w_q_slip (l : Launch) (g : kG) (x : Nat → Nat) (a : Nat → Nat) (n : Nat) (f : Nat → Int32) (cn : Nat) (rf : Nat → Option Nat) (hQ : QF f cn) (v : Int32) : MI l yX4_slip cX4_slip 8 (some .int) (rr 4 88) [.ref (x 0), .int (v)] (fun H => XB g x a n f cn rf H ∧ XS g x H) g 0 0 (SC x) (fun r H1 => r = (q_sli f v) ∧ XS g x H1) :=
  c_X4_slip l g x a n f cn rf hQ.2.1 hQ.1 v hQ.X hQ.E
theorem w_q_constant (l : Launch) (g : kG) (x : Nat → Nat) (a : Nat → Nat) (n : Nat) (f : Nat → Int32) (cn : Nat) (rf : Nat → Option Nat) (hQ : QF f cn) (v : Int32) (st : Int32) : PI l yX4_constant cX4_constant 3 (some .int) (rr 2 43) [.ref (x 0), .int (v), .int (st)] (XB g x a n f cn rf) g (q_con f v st) :=
  c_X4_constant l g x a n f cn rf hQ.2.1 hQ.1 v st
theorem w_q_leakage (l : Launch) (g : kG) (x : Nat → Nat) (a : Nat → Nat) (n : Nat) (f : Nat → Int32) (cn : Nat) (rf : Nat → Option Nat) (hQ : QF f cn) (v : Int32) : MI l yX4_leakage cX4_leakage 4 (some .int) (rr 4 88) [.ref (x 0), .int (v)] (fun H => XB g x a n f cn rf H ∧ XS g x H) g 0 0 (SC x) (fun r H1 => r = (q_lea f v) ∧ XS g x H1) :=
  c_X4_leakage l g x a n f cn rf hQ.2.1 hQ.1 v hQ.X hQ.Kc
theorem w_q_cardsOf (l : Launch) (g : kG) (x : Nat → Nat) (a : Nat → Nat) (n : Nat) (f : Nat → Int32) (cn : Nat) (rf : Nat → Option Nat) (hQ : QF f cn) (en : Int32) : PI l yX4_cardsOf cX4_cardsOf 2 (some .int) (rr 1 23) [.ref (x 0), .int (en)] (XB g x a n f cn rf) g (q_cof f cn en) :=
  c_X4_cardsOf l g x a n f cn rf hQ.2.1 hQ.1 en
theorem w_q_meanArea (l : Launch) (g : kG) (x : Nat → Nat) (a : Nat → Nat) (n : Nat) (f : Nat → Int32) (cn : Nat) (rf : Nat → Option Nat) (hQ : QF f cn) (en : Int32) : MI l yX4_meanArea cX4_meanArea 2 (some .int) (rr 3 70) [.ref (x 0), .int (en)] (fun H => XB g x a n f cn rf H ∧ XS g x H) g 0 0 (SC x) (fun r H1 => r = (s_maR f en cn) ∧ XS g x H1) :=
  c_X4_meanArea l g x a n f cn rf hQ.2.1 hQ.1 en hQ.p0
theorem w_q_meanPower (l : Launch) (g : kG) (x : Nat → Nat) (a : Nat → Nat) (n : Nat) (f : Nat → Int32) (cn : Nat) (rf : Nat → Option Nat) (hQ : QF f cn) (en : Int32) : PL l yX4_meanPower cX4_meanPower 2 (some .long) (rr 5 118) [.ref (x 0), .int (en)] (XB g x a n f cn rf) g (q_mpw f cn en) :=
  c_X4_meanPower l g x a n f cn rf hQ.2.1 hQ.1 en hQ.E
theorem w_q_imbalance (l : Launch) (g : kG) (x : Nat → Nat) (a : Nat → Nat) (n : Nat) (f : Nat → Int32) (cn : Nat) (rf : Nat → Option Nat) (hQ : QF f cn) : PI l yX4_imbalance cX4_imbalance 5 (some .int) (rr 5 118) [.ref (x 0)] (XB g x a n f cn rf) g (s_im f cn) :=
  c_X4_imbalance l g x a n f cn rf hQ.2.1 hQ.1 hQ.E (hQ.M (nI 0)) (hQ.M (nI 1))
theorem w_q_idealArea (l : Launch) (g : kG) (x : Nat → Nat) (a : Nat → Nat) (n : Nat) (f : Nat → Int32) (cn : Nat) (rf : Nat → Option Nat) (hQ : QF f cn) (en : Int32) : MI l yX4_idealArea cX4_idealArea 2 (some .int) (rr 5 117) [.ref (x 0), .int (en)] (fun H => XB g x a n f cn rf H ∧ XS g x H) g 0 0 (SC x) (fun r H1 => r = (q_iar f en) ∧ XS g x H1) :=
  c_X4_idealArea l g x a n f cn rf hQ.2.1 hQ.1 en
theorem w_q_balancingCutOff (l : Launch) (g : kG) (x : Nat → Nat) (a : Nat → Nat) (n : Nat) (f : Nat → Int32) (cn : Nat) (rf : Nat → Option Nat) (hQ : QF f cn) : MI l yX4_balancingCutOff cX4_balancingCutOff 3 (some .int) (rr 6 151) [.ref (x 0)] (fun H => XB g x a n f cn rf H ∧ XS g x H) g 0 0 (SC x) (fun r H1 => r = (k_bal f) ∧ XS g x H1) :=
  c_X4_balancingCutOff l g x a n f cn rf hQ.2.1 hQ.1
theorem w_q_historySize (l : Launch) (g : kG) (x : Nat → Nat) (a : Nat → Nat) (n : Nat) (f : Nat → Int32) (cn : Nat) (rf : Nat → Option Nat) (hQ : QF f cn) : PI l yX4_historySize cX4_historySize 1 (some .int) (rr 0 0) [.ref (x 0)] (XB g x a n f cn rf) g (nI n) :=
  c_X4_historySize l g x a n f cn rf hQ.2.1 hQ.1
