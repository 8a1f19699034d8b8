/-! THE CLAIM OUT OF ONE WALK OF THE LAW'S BODY. Your part is whole_start (and what it stands on); all else here is the same for every law, but numbers. -/
def R_law : String := "IndicatorDiagramLaw"
def lw_P (b : Addr) (xs : List Int32) (args : Array Value) (s : State) : Prop := args = #[.ref b] ∧ s.IntsAt b xs ∧ xs.length ≤ 260 ∧ (Jvm.Cond.and given_1 narrow_1).before args s = true
def lw_Q (_ : Array Value) (s : State) (o : Outcome) (t : State) : Prop := o = .returned (some (.int 1)) ∧ Framed s o t [] 600000 7302250
def lw_Z (below : List Frame) (a : Array Value) (s : State) : State → Prop := fun t => ∃ o, t.status = .running ∧ Ended t below o ∧ lw_Q a s o t
/-- the law's own end, with 1 on the stack, nothing written that was there before, its room as the claim has it -/
theorem lw_ret {p : Program} {l : Launch} {e : Env} {s : State} {m : MethodId} {below : List Frame} {meth : Method} {c : Code} {b : Nat} (hx : p.tables.exec = Jvm.exec) (hb : c.code = code) (hr : meth.sig.returnType = ret) (hlocks : meth.locks = false) {pc : Nat} {H : Heap} {ls : Array Slot} (hdg : decode code pc = .ok (.ireturn, 1)) : W p l e room_1 s m #[Value.ref b] below meth c H [] 600000 7302250 (lw_Z below #[Value.ref b] s) (F0 m pc ls [.int 1]) := by
  intro T hT X
  obtain ⟨fs, hret, hrun, hended, hW, hframe⟩ := X.leave (v := some (.int 1)) (hlocks := hlocks) (fun h => by rw [hr] at h; cases h)
  have hmeth' : T.vm.method? m = some meth := X.method'
  refine ⟨T.setFrames fs, ?_, .returned (some (.int 1)), hrun, hended, rfl, ⟨_, rfl⟩, hW, hframe⟩
  jvm_step X.here [X.here.top, hx, hb, hdg, hmeth', hr, ret, narrow_b1]
  (try refine ⟨rfl, ?_⟩); (try refine ⟨rfl, ?_⟩)
  first | (intro acts; rw [hret _ acts rfl rfl rfl]) | rw [hret _ _ rfl rfl rfl]
  exact Steps.refl _
/-- what holds at the law's entry: the machine, the code, the tables' words (any of lw_tbl by 'hts w (by decide +kernel)'), the script of L ints xs at the cell b, what the Statement gives of the start (any of its parts by flat_of_before) -/
def lw_At (p : Program) (s : State) (m : MethodId) (meth : Method) (c : Code) (b L : Nat) (xs : Nat → Int32) : Prop :=
  p.tables.exec = Jvm.exec ∧ c.code = code ∧ meth.sig.returnType = ret ∧ c.maxLocals = 8 ∧ s.vm.findClass R_law = some m.cls ∧ (∀ w ∈ lw_tbl, w.before #[Value.ref b] s = true) ∧ va_X b L xs s s.heap ∧ b < s.heap.size ∧ meth.locks = false ∧ (Jvm.Cond.and given_1 narrow_1).before #[Value.ref b] s = true
theorem L_L_X4_historySize : LnkV RL 171 yX4_historySize cX4_historySize 1 (some .int) 0 := ⟨w_401, w_402, w_403, w_25, w_404, ⟨by decide +kernel, by decide +kernel⟩, by decide +kernel⟩
theorem L_L_X4_init : LnkI RL 145 yX4_init cX4_init 2 0 := ⟨w_34, w_35, rfl, w_25, w_36, ⟨by decide +kernel, by decide +kernel⟩, by decide +kernel⟩
set_option maxHeartbeats 4000000 in
set_option maxRecDepth 100000 in
theorem law_345 {p : Program} {l : Launch} {e : Env} {s : State} {m : MethodId} {below : List Frame} {meth : Method} {c : Code} {H : Heap} {locs : List Loc} {cells slots : Nat} {b L : Nat} {xs : Nat → Int32} {ls : Array Slot} {g : kG} {x a : Nat → Nat} {M : Nat → Prop} {top n : Nat} {f : Nat → Int32} {fo : Nat → Int32} {cn : Nat}  (hC : CallFix p m c cL_law 8 s #[Value.ref b] lw_good RL) (hK : KK g s) (hXs : va_X b L xs s s.heap) (hbl : b < s.heap.size) (hL : L ≤ 260) (hLB : LB x M s.heap.size top) (hJ : LJS g x a M top f n H) (hS : va_S (fun z => s.heap.size ≤ z) s.heap H locs) (hcl : cells + 3 ≤ 600000) (hsl : slots + 46 ≤ 7302250) (hr : meth.sig.returnType = ret) (hlocks : meth.locks = false) (hQt : QF fo cn) (hag : ∀ j, j < 502 → f j = fo j) (hl : lv_has ls 8 [(3, .long (v_all fo cn)), (1, .ref (x 0)), (0, .ref b)])
     : W p l e room_1 s m #[Value.ref b] below meth c H locs cells slots ((lw_Z below #[Value.ref b] s)) (F0 m 345 ls []) := by
  have hx := hC.1
  have hb := hC.2.1
  have hml := hC.2.2.1
  have hown := hC.2.2.2.1
  have hts := hC.2.2.2.2
  obtain ⟨hX, hG, htop⟩ := hJ
  have hn4 := hX.1
  have hcn := hQt.1
  have hc : f 61 = nI cn := (hag 61 (by decide)).trans hQt.2.1
  have hQ : QF f cn := hG.1.qn hc hQt.1
  refine lv_aload_n hx hb dL_law_345 rfl (lvG hl rfl) ?_
  refine k_callML0 (k_goS (rest := []) hC hK (c_L_all l g x a M f n (fo) (cn) (hQt) (hag)) L_L_L_all (⟨⟨Nat.le_of_ble_eq_true rfl, Nat.le_of_ble_eq_true rfl⟩, ⟨rfl, rfl⟩, ⟨(by show _ ≤ 600000; omega), (by show _ ≤ 7302250; omega)⟩⟩) (hX) rfl hl.1 rfl (Nat.le_of_ble_eq_true rfl) dL_law_346) hS (fun z h => (hLB z (Or.inr (Or.inl h))).1) (fun r_ H_1 locs_2 hq_3 hz_ hk_5 hS_4 => ?_)
  obtain ⟨e_6, hX_7⟩ := hq_3
  subst e_6
  have htop_8 := Nat.le_trans htop hz_
  refine lv_lload_n hx hb dL_law_349 rfl (lvG hl rfl) ?_
  refine j_lne (tgt := 420) hC dL_law_350 dL_law_351 (by decide) (fun zc350 => ?_) (fun zc350 => ?_)
  · first | exact absurd rfl zc350 | exact absurd zc359 (by omega) | exact absurd rfl zc372 | exact absurd rfl zc382 | exact absurd rfl zc393 | exact absurd rfl zc404 | exact absurd rfl zc412
  · refine lv_aload_n hx hb dL_law_354 rfl (lvG hl rfl) ?_
    obtain ⟨rq_9, hB_10, hT_11, hbk_12⟩ := hX_7.q hc hQ.1
    refine k_callPI (k_goV (rest := []) hC hK (w_q_historySize l g x a n f cn rq_9 hQ) L_L_X4_historySize (⟨⟨Nat.le_of_ble_eq_true rfl, Nat.le_of_ble_eq_true rfl⟩, ⟨rfl, rfl⟩, ⟨(by show _ ≤ 600000; omega), (by show _ ≤ 7302250; omega)⟩⟩) (hX_7.recv hK) (hB_10) rfl hl.1 rfl (Nat.le_of_ble_eq_true rfl) dL_law_355) ?_
    refine lv_iconst (v := nI 5) hx hb dL_law_358 (by decide) ?_
    refine n_icmp_ge (tgt := 420) hC dL_law_359 (by omega) (by omega) (by decide) (fun zc359 => ?_) (fun zc359 => ?_)
    · first | exact absurd rfl zc350 | exact absurd zc359 (by omega) | exact absurd rfl zc372 | exact absurd rfl zc382 | exact absurd rfl zc393 | exact absurd rfl zc404 | exact absurd rfl zc412
    · refine lv_aload_n hx hb dL_law_362 rfl (lvG hl rfl) ?_
      refine lv_bipush (v := nI 10) hx hb dL_law_363 (by decide) ?_
      refine lv_iconst (v := nI 0) hx hb dL_law_365 (by decide) ?_
      refine lv_iconst (v := nI 0) hx hb dL_law_366 (by decide) ?_
      refine k_callPI (k_goV (rest := []) hC hK (w_q_pressure l g x a n f cn rq_9 hQ (nI 10) (nI 0) (nI 0)) L_L_X4_pressure (⟨⟨Nat.le_of_ble_eq_true rfl, Nat.le_of_ble_eq_true rfl⟩, ⟨rfl, rfl⟩, ⟨(by show _ ≤ 600000; omega), (by show _ ≤ 7302250; omega)⟩⟩) (hX_7.recv hK) (hB_10) rfl hl.1 rfl (Nat.le_of_ble_eq_true rfl) dL_law_367) ?_
      rw [prs_10 hc hQt.1]
      refine lv_ldc (v := (-2000000001 : Int32)) hx hb hown (hts _ w_626) dL_law_370 ?_
      refine lv_icmp_ne (tgt := 420) hx hb dL_law_372 (by decide) (fun zc372 => ?_) (fun zc372 => ?_)
      · first | exact absurd rfl zc350 | exact absurd zc359 (by omega) | exact absurd rfl zc372 | exact absurd rfl zc382 | exact absurd rfl zc393 | exact absurd rfl zc404 | exact absurd rfl zc412
      · refine lv_aload_n hx hb dL_law_375 rfl (lvG hl rfl) ?_
        refine lv_iconst (v := nI 0) hx hb dL_law_376 (by decide) ?_
        refine k_callMI0 (k_goV (rest := []) hC hK (c_X4_setClearance l g x a M f n (nI 0)) L_L_X4_setClearance (⟨⟨Nat.le_of_ble_eq_true rfl, Nat.le_of_ble_eq_true rfl⟩, ⟨rfl, rfl⟩, ⟨(by show _ ≤ 600000; omega), (by show _ ≤ 7302250; omega)⟩⟩) (hX_7.recv hK) (hX_7) rfl hl.1 rfl (Nat.le_of_ble_eq_true rfl) dL_law_377) hS_4 (fun z h => (hLB z (Or.inl h)).1) (fun r_ H_13 locs_14 hq_15 hz_ hk_17 hS_16 => ?_)
        obtain ⟨e_18, hX_19⟩ := hq_15
        obtain ⟨a1, a2, a3⟩ := cl_0 (f := f) (n := n)
        rw [a1] at e_18
        rw [a2, a3] at hX_19
        subst e_18
        have htop_20 := Nat.le_trans htop_8 hz_
        refine lv_ldc (v := (-2000000001 : Int32)) hx hb hown (hts _ w_626) dL_law_380 ?_
        refine lv_icmp_ne (tgt := 420) hx hb dL_law_382 (by decide) (fun zc382 => ?_) (fun zc382 => ?_)
        · first | exact absurd rfl zc350 | exact absurd zc359 (by omega) | exact absurd rfl zc372 | exact absurd rfl zc382 | exact absurd rfl zc393 | exact absurd rfl zc404 | exact absurd rfl zc412
        · refine lv_aload_n hx hb dL_law_385 rfl (lvG hl rfl) ?_
          refine lv_iconst (v := nI 0) hx hb dL_law_386 (by decide) ?_
          refine lv_iconst (v := nI 4) hx hb dL_law_387 (by decide) ?_
          obtain ⟨rq_21, hB_22, hT_23, hbk_24⟩ := hX_19.q hc hQ.1
          refine k_callMI0 (k_goV (rest := []) hC hK (w_q_event l g x a n f cn rq_21 hQ (nI 0) (nI 4)) L_L_X4_event (⟨⟨Nat.le_of_ble_eq_true rfl, Nat.le_of_ble_eq_true rfl⟩, ⟨rfl, rfl⟩, ⟨(by show _ ≤ 600000; omega), (by show _ ≤ 7302250; omega)⟩⟩) (hX_19.recv hK) (⟨hB_22, hT_23⟩) rfl hl.1 rfl (Nat.le_of_ble_eq_true rfl) dL_law_388) hS_16 ((fun z h => (hLB z (Or.inr (Or.inl h))).1)) (fun r_ H_25 locs_26 hq_27 hz_ hk_29 hS_28 => ?_)
          obtain ⟨e_30, hT_31⟩ := hq_27
          rw [evn_4] at e_30
          subst e_30
          have hX_32 := hbk_24 H_25 hk_29 hT_31
          obtain ⟨rq_33, hB_34, hT_35, hbk_36⟩ := hX_32.q hc hQ.1
          have htop_37 := Nat.le_trans htop_20 hz_
          refine lv_ldc (v := (-2000000001 : Int32)) hx hb hown (hts _ w_626) dL_law_391 ?_
          refine lv_icmp_ne (tgt := 420) hx hb dL_law_393 (by decide) (fun zc393 => ?_) (fun zc393 => ?_)
          · first | exact absurd rfl zc350 | exact absurd zc359 (by omega) | exact absurd rfl zc372 | exact absurd rfl zc382 | exact absurd rfl zc393 | exact absurd rfl zc404 | exact absurd rfl zc412
          · refine lv_aload_n hx hb dL_law_396 rfl (lvG hl rfl) ?_
            refine lv_iconst (v := nI 2) hx hb dL_law_397 (by decide) ?_
            refine lv_iconst (v := nI 0) hx hb dL_law_398 (by decide) ?_
            refine k_callPI (k_goV (rest := []) hC hK (w_q_valve l g x a n f cn rq_33 hQ (nI 2) (nI 0)) L_L_X4_valve (⟨⟨Nat.le_of_ble_eq_true rfl, Nat.le_of_ble_eq_true rfl⟩, ⟨rfl, rfl⟩, ⟨(by show _ ≤ 600000; omega), (by show _ ≤ 7302250; omega)⟩⟩) (hX_32.recv hK) (hB_34) rfl hl.1 rfl (Nat.le_of_ble_eq_true rfl) dL_law_399) ?_
            rw [val_2]
            refine lv_ldc (v := (-2000000001 : Int32)) hx hb hown (hts _ w_626) dL_law_402 ?_
            refine lv_icmp_ne (tgt := 420) hx hb dL_law_404 (by decide) (fun zc404 => ?_) (fun zc404 => ?_)
            · first | exact absurd rfl zc350 | exact absurd zc359 (by omega) | exact absurd rfl zc372 | exact absurd rfl zc382 | exact absurd rfl zc393 | exact absurd rfl zc404 | exact absurd rfl zc412
            · refine lv_aload_n hx hb dL_law_407 rfl (lvG hl rfl) ?_
              refine k_callML0 (k_goS (rest := []) hC hK (c_L_all l g x a M f n (fo) (cn) (hQt) (hag)) L_L_L_all (⟨⟨Nat.le_of_ble_eq_true rfl, Nat.le_of_ble_eq_true rfl⟩, ⟨rfl, rfl⟩, ⟨(by show _ ≤ 600000; omega), (by show _ ≤ 7302250; omega)⟩⟩) (hX_32) rfl hl.1 rfl (Nat.le_of_ble_eq_true rfl) dL_law_408) hS_28 (fun z h => (hLB z (Or.inr (Or.inl h))).1) (fun r_ H_38 locs_39 hq_40 hz_ hk_42 hS_41 => ?_)
              obtain ⟨e_43, hX_44⟩ := hq_40
              subst e_43
              have htop_45 := Nat.le_trans htop_37 hz_
              refine lv_lload_n hx hb dL_law_411 rfl (lvG hl rfl) ?_
              refine j_lne (tgt := 420) hC dL_law_412 dL_law_413 (by decide) (fun zc412 => ?_) (fun zc412 => ?_)
              · first | exact absurd rfl zc350 | exact absurd zc359 (by omega) | exact absurd rfl zc372 | exact absurd rfl zc382 | exact absurd rfl zc393 | exact absurd rfl zc404 | exact absurd rfl zc412
              · refine lv_iconst (v := nI 1) hx hb dL_law_416 (by decide) ?_
                refine lv_goto (tgt := 421) hx hb dL_law_417 (by decide) ?_
                refine W.widen (k := 600000) (n := 7302250) (by omega) (by omega) ?_
                refine va_forget hS_41.2.2 ?_
                exact lw_ret hx hb hr hlocks dL_law_421
set_option maxHeartbeats 4000000 in
set_option maxRecDepth 100000 in
theorem law_pts {p : Program} {l : Launch} {e : Env} {s : State} {m : MethodId} {below : List Frame} {meth : Method} {c : Code} {b L : Nat} {xs : Nat → Int32} {g : kG} {x a : Nat → Nat} {M : Nat → Prop} {top : Nat} {Q : State → Prop} {zk cells slots : Nat} {zz : Int32} (hC : CallFix p m c cL_law 8 s #[Value.ref b] lw_good RL) (hK : KK g s) (hXs : va_X b L xs s s.heap) (hbl : b < s.heap.size) (hL : L ≤ 260) (hLB : LB x M s.heap.size top) (hcl : cells + 3 ≤ 600000) (hsl : slots + 46 ≤ 7302250) (hzk : zk ≤ 1)
    (kk : ∀ (F : Nat → Int32) (N : Nat) (H2 : Heap) (locs2 : List Loc) (ls2 : Array Slot), LJS g x a M top F N H2 → PTS zk F 6 → va_S (fun z => s.heap.size ≤ z) s.heap H2 locs2 → lv_has ls2 8 [(3, .int (nI zk)), (2, .int (zz)), (1, .ref (x 0)), (0, .ref b)] → W p l e room_1 s m #[Value.ref b] below meth c H2 locs2 cells slots Q (F0 m 114 ls2 [])) :
    ∀ (k zp : Nat) (f : Nat → Int32) (n : Nat) (H : Heap) (locs : List Loc) (ls : Array Slot), zp + k = 6 → LJS g x a M top f n H → PTS zk f zp → va_S (fun z => s.heap.size ≤ z) s.heap H locs → lv_has ls 8 [(4, .int (nI zp)), (3, .int (nI zk)), (2, .int (zz)), (1, .ref (x 0)), (0, .ref b)] → W p l e room_1 s m #[Value.ref b] below meth c H locs cells slots Q (F0 m 51 ls []) := by
  have hx := hC.1
  have hb := hC.2.1
  intro k
  induction k with
  | zero =>
    intro zp f n H locs ls h1 hJ hT hS hl
    refine lv_iload hx hb dL_law_51 (lvG hl rfl) ?_
    refine lv_bipush (v := nI 6) hx hb dL_law_53 (by decide) ?_
    refine n_icmp_ge (tgt := 114) hC dL_law_55 (by omega) (by omega) (by decide) (fun zc => ?_) (fun zc => absurd (show 6 ≤ zp by omega) zc)
    exact kk f n H locs ls hJ (by rw [show zp = 6 by omega] at hT; exact hT) hS (lv_sub hl [1, 2, 3, 4] rfl)
  | succ k ih =>
    intro zp f n H locs ls h1 hJ hT hS hl
    refine lv_iload hx hb dL_law_51 (lvG hl rfl) ?_
    refine lv_bipush (v := nI 6) hx hb dL_law_53 (by decide) ?_
    refine n_icmp_ge (tgt := 114) hC dL_law_55 (by omega) (by omega) (by decide) (fun zc => absurd zc (by omega)) (fun zc => ?_)
    exact law_58 hC hK hXs hbl hL hLB hJ hS hcl hsl hzk (by omega) hT hl (fun F N H2 locs2 ls2 hJ2 hT2 hS2 hl2 => ih (zp + 1) F N H2 locs2 ls2 (by omega) hJ2 hT2 hS2 hl2)
set_option maxHeartbeats 4000000 in
set_option maxRecDepth 100000 in
theorem law_l1 {p : Program} {l : Launch} {e : Env} {s : State} {m : MethodId} {below : List Frame} {meth : Method} {c : Code} {b L : Nat} {xs : Nat → Int32} {g : kG} {x a : Nat → Nat} {M : Nat → Prop} {top : Nat} {Q : State → Prop} {zz : Int32} (hC : CallFix p m c cL_law 8 s #[Value.ref b] lw_good RL) (hK : KK g s) (hXs : va_X b L xs s s.heap) (hbl : b < s.heap.size) (hL : L ≤ 260) (hLB : LB x M s.heap.size top)
    (kk : ∀ (F : Nat → Int32) (N : Nat) (H2 : Heap) (locs2 : List Loc) (ls2 : Array Slot), LJS g x a M top F N H2 → va_S (fun z => s.heap.size ≤ z) s.heap H2 locs2 → lv_has ls2 8 [(2, .int (zz)), (1, .ref (x 0)), (0, .ref b)] → W p l e room_1 s m #[Value.ref b] below meth c H2 locs2 200 5000 Q (F0 m 130 ls2 [])) :
    ∀ (k zk : Nat) (f : Nat → Int32) (n : Nat) (H : Heap) (locs : List Loc) (ls : Array Slot), zk + k = 2 → LJS g x a M top f n H → f 61 = nI zk → va_S (fun z => s.heap.size ≤ z) s.heap H locs → lv_has ls 8 [(3, .int (nI zk)), (2, .int (zz)), (1, .ref (x 0)), (0, .ref b)] → W p l e room_1 s m #[Value.ref b] below meth c H locs (100 + 3 * zk) (4000 + 46 * zk) Q (F0 m 16 ls []) := by
  have hx := hC.1
  have hb := hC.2.1
  intro k
  induction k with
  | zero =>
    intro zk f n H locs ls h1 hJ h61 hS hl
    refine lv_iload_n hx hb dL_law_16 rfl (lvG hl rfl) ?_
    refine lv_iconst (v := nI 2) hx hb dL_law_17 (by decide) ?_
    refine n_icmp_ge (tgt := 130) hC dL_law_18 (by omega) (by omega) (by decide) (fun zc => ?_) (fun zc => absurd (show 2 ≤ zk by omega) zc)
    refine W.widen (k := 200) (n := 5000) (by omega) (by omega) ?_
    exact kk f n H locs ls hJ hS (lv_sub hl [1, 2, 3] rfl)
  | succ k ih =>
    intro zk f n H locs ls h1 hJ h61 hS hl
    refine lv_iload_n hx hb dL_law_16 rfl (lvG hl rfl) ?_
    refine lv_iconst (v := nI 2) hx hb dL_law_17 (by decide) ?_
    refine n_icmp_ge (tgt := 130) hC dL_law_18 (by omega) (by omega) (by decide) (fun zc => absurd zc (by omega)) (fun zc => ?_)
    have hzk : zk ≤ 1 := by omega
    refine law_21 hC hK hXs hbl hL hLB hJ hS (by omega) (by omega) hzk h61 hl (fun F N H2 locs2 ls2 hJ2 hT2 hS2 hl2 => ?_)
    refine law_pts hC hK hXs hbl hL hLB (by omega) (by omega) hzk (fun F3 N3 H3 locs3 ls3 hJ3 hT3 hS3 hl3 => ?_) 6 0 F N H2 locs2 ls2 rfl hJ2 hT2 hS2 hl2
    refine law_114 hC hK hXs hbl hL hLB hJ3 hS3 (by omega) (by omega) hzk hT3 hl3 (fun F4 N4 H4 locs4 ls4 hJ4 h4 hS4 hl4 => ?_)
    refine n_iinc (lv' := [(3, .int (nI (zk + 1))), (2, .int (zz)), (1, .ref (x 0)), (0, .ref b)]) hC dL_law_124 hl4 rfl (by decide) rfl (fun ls5 hl5 => ?_)
    refine lv_goto (tgt := 16) hx hb dL_law_127 (by decide) ?_
    refine W.widen (k := 100 + 3 * (zk + 1)) (n := 4000 + 46 * (zk + 1)) (by omega) (by omega) ?_
    exact ih (zk + 1) F4 N4 H4 locs4 ls5 (by omega) hJ4 h4 hS4 hl5
set_option maxHeartbeats 4000000 in
set_option maxRecDepth 100000 in
theorem law_l2 {p : Program} {l : Launch} {e : Env} {s : State} {m : MethodId} {below : List Frame} {meth : Method} {c : Code} {b L : Nat} {xs : Nat → Int32} {g : kG} {x a : Nat → Nat} {M : Nat → Prop} {top : Nat} {zz : Int32} (hC : CallFix p m c cL_law 8 s #[Value.ref b] lw_good RL) (hK : KK g s) (hXs : va_X b L xs s s.heap) (hbl : b < s.heap.size) (hL : L ≤ 260) (hLB : LB x M s.heap.size top) (hr : meth.sig.returnType = ret) (hlocks : meth.locks = false) :
    ∀ (k zt : Nat) (f : Nat → Int32) (n : Nat) (H : Heap) (locs : List Loc) (ls : Array Slot), zt + k = 22 → LJS g x a M top f n H → va_S (fun z => s.heap.size ≤ z) s.heap H locs → lv_has ls 8 [(3, .int (nI zt)), (2, .int (zz)), (1, .ref (x 0)), (0, .ref b)] → W p l e room_1 s m #[Value.ref b] below meth c H locs (200 + 3 * zt) (5000 + 46 * zt) (lw_Z below #[Value.ref b] s) (F0 m 132 ls []) := by
  have hx := hC.1
  have hb := hC.2.1
  intro k
  induction k with
  | zero =>
    intro zt f n H locs ls h1 hJ hS hl
    refine lv_iload_n hx hb dL_law_132 rfl (lvG hl rfl) ?_
    refine lv_bipush (v := nI 22) hx hb dL_law_133 (by decide) ?_
    refine n_icmp_ge (tgt := 268) hC dL_law_135 (by omega) (by omega) (by decide) (fun zc => ?_) (fun zc => absurd (show 22 ≤ zt by omega) zc)
    obtain ⟨cn, hQ⟩ := hJ.2.1.1.qf
    have hQt := hJ.2.1.1.qt hQ.2.1 hQ.1
    refine law_268 hC hK hXs hbl hL hLB hJ hS (by omega) (by omega) hQ (lv_sub hl [1, 2, 3] rfl) (fun F N H2 locs2 ls2 hJ2 hag hS2 hl2 => ?_)
    exact law_345 hC hK hXs hbl hL hLB hJ2 hS2 (by omega) (by omega) hr hlocks hQt hag hl2
  | succ k ih =>
    intro zt f n H locs ls h1 hJ hS hl
    refine lv_iload_n hx hb dL_law_132 rfl (lvG hl rfl) ?_
    refine lv_bipush (v := nI 22) hx hb dL_law_133 (by decide) ?_
    refine n_icmp_ge (tgt := 268) hC dL_law_135 (by omega) (by omega) (by decide) (fun zc => absurd zc (by omega)) (fun zc => ?_)
    have hzt : zt < 22 := by omega
    refine law_138 hC hK hXs hbl hL hLB hJ hS (by omega) (by omega) hzt hl (fun yy F N H2 locs2 ls2 hJ2 hS2 hl2 => ?_)
    refine law_216 hC hK hXs hbl hL hLB hJ2 hS2 (by omega) (by omega) hzt hl2 (fun H3 locs3 ls3 hJ3 hS3 hl3 => ?_)
    refine n_iinc (lv' := [(3, .int (nI (zt + 1))), (2, .int (zz)), (1, .ref (x 0)), (0, .ref b)]) hC dL_law_262 hl3 rfl (by decide) rfl (fun ls4 hl4 => ?_)
    refine lv_goto (tgt := 132) hx hb dL_law_265 (by decide) ?_
    refine W.widen (k := 200 + 3 * (zt + 1)) (n := 5000 + 46 * (zt + 1)) (by omega) (by omega) ?_
    exact ih (zt + 1) F N H3 locs3 ls4 (by omega) hJ3 hS3 hl4
set_option maxHeartbeats 4000000 in
set_option maxRecDepth 100000 in
theorem whole_start {p : Program} {e : Env} {s : State} {m : MethodId} {below : List Frame} {meth : Method} {c : Code} (l : Launch) (hflags : l.flags = flags0) {b L : Nat} {xs : Nat → Int32} (hL : L ≤ 260) (C0 : lw_At p s m meth c b L xs) : W p l e room_1 s m #[Value.ref b] below meth c s.heap [] 0 0 (lw_Z below #[Value.ref b] s) (entryFrame m ([Value.ref b] : List Value).toArray 8) := by
  obtain ⟨hx, hb, hr, hml, hown, hts, hX, hbl, hlocks, hgv⟩ := C0
  have hC : CallFix p m c cL_law 8 s #[Value.ref b] lw_good RL := ⟨hx, hb, hml, hown, fun w hw => hts w (List.mem_filter.mp hw).1⟩
  obtain ⟨g, hK⟩ := KK_start hts
  have hl := lv_entry ([.ref b]) (n := 8) (Nat.le_of_ble_eq_true rfl)
  rw [lg_entry_eq]
  generalize (lg_sl ([.ref b]) ++ List.replicate (8 - (lg_sl ([.ref b])).length) Slot.unset).toArray = ls at hl ⊢
  have hl : lv_has ls 8 [(0, .ref b)] := hl
  have hS : va_S (fun z => s.heap.size ≤ z) s.heap s.heap [] := va_S.rf
  refine k_newO (ci := 4) (fs := [.null, .null, .int (nI 0), .null, .null, .null, .null]) (C := RX4) (T := TX4) (N := 7) hC hK i_X4 tyX4 tyX4_ok w_32 w_33 w_25 hS rfl (by exact bl_X4) (Nat.le_of_ble_eq_true rfl) (Nat.le_of_ble_eq_true rfl) dL_law_0 (fun q0 H1 eq0 hv0 hz0 hk0 hS1 => ?_)
  refine lv_dup hx hb dL_law_3 rfl ?_
  refine k_callMV (k_goI (rest := [.ref q0]) hC hK (c_X4_init l g q0) L_L_X4_init ⟨⟨Nat.le_of_ble_eq_true rfl, Nat.le_of_ble_eq_true rfl⟩, ⟨rfl, rfl⟩, ⟨Nat.le_of_ble_eq_true rfl, Nat.le_of_ble_eq_true rfl⟩⟩ ⟨by omega, hv0⟩ rfl hl.1 rfl (Nat.le_of_ble_eq_true rfl) dL_law_4) hS1 (fun z h => by have h8 : q0 ≤ z := h; show s.heap.size ≤ z; omega) (fun H2 locs2 hq2 hz2 hk2 hS2 => ?_)
  obtain ⟨hs2, hX2⟩ := hq2
  refine lv_astore_n (lv' := [(1, .ref q0), (0, .ref b)]) hx hb dL_law_7 rfl hl (by decide) rfl (fun ls hl => ?_)
  refine lv_aload_n hx hb dL_law_8 rfl (lvG hl rfl) ?_
  refine lv_iconst (v := nI 0) hx hb dL_law_9 (by decide) ?_
  refine x_cell (rest := []) hC hK hL (by omega) L_L_L_cell ⟨⟨Nat.le_of_ble_eq_true rfl, Nat.le_of_ble_eq_true rfl⟩, ⟨rfl, rfl⟩, ⟨Nat.le_of_ble_eq_true rfl, Nat.le_of_ble_eq_true rfl⟩⟩ hX hbl hS2 hl.1 (Nat.le_of_ble_eq_true rfl) dL_law_10 ?_
  refine lv_topi (fun zz ezz => ?_)
  refine lv_istore_n (lv' := [(2, .int zz), (1, .ref q0), (0, .ref b)]) hx hb dL_law_13 rfl hl (by decide) rfl (fun ls hl => ?_)
  refine lv_iconst (v := nI 0) hx hb dL_law_14 (by decide) ?_
  refine lv_istore_n (lv' := [(3, .int (nI 0)), (2, .int zz), (1, .ref q0), (0, .ref b)]) hx hb dL_law_15 rfl hl (by decide) rfl (fun ls hl => ?_)
  refine W.widen (k := 100 + 3 * 0) (n := 4000 + 46 * 0) (by decide) (by decide) ?_
  have hLB : LB (k_xd q0) (k_M q0) s.heap.size (Array.size H2) := fun z h => by
    have hr2 : q0 ≤ z ∧ z < q0 + 43 := by
      rcases h with h | h | h | h
      · exact h.1
      · have := SC_iff.mp h; omega
      · have e8 : z = q0 + 6 := h
        omega
      · have e9 : z = q0 + 6 := h
        omega
    omega
  refine law_l1 hC hK hX hbl hL hLB (fun F N H3 locs3 ls3 hJ3 hS3 hl3 => ?_) 2 0 s_ini 0 H2 locs2 ls rfl ⟨hX2, ini_GD, Nat.le_refl _⟩ (by decide) hS2 hl
  refine lv_iconst (v := nI 0) hx hb dL_law_130 (by decide) ?_
  refine lv_istore_n (lv' := [(3, .int (nI 0)), (2, .int zz), (1, .ref q0), (0, .ref b)]) hx hb dL_law_131 rfl hl3 (by decide) rfl (fun ls4 hl4 => ?_)
  exact law_l2 hC hK hX hbl hL hLB hr hlocks 22 0 F N H3 locs3 ls4 rfl hJ3 hS3 hl4
