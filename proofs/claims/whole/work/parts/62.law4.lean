/-! THE CLAIM OUT OF ONE WALK OF THE LAW'S BODY. Your part is whole_start (and what it stands on); all else here is the same for every law, but numbers. -/
def R_law : String := "IndicatorDiagramLaw"
def lw_P (b : Addr) (xs : List Int32) (args : Array Value) (s : State) : Prop := args = #[.ref b] ∧ s.IntsAt b xs ∧ xs.length ≤ 3072 ∧ (Jvm.Cond.and given_1 narrow_1).before args s = true
def lw_Q (_ : Array Value) (s : State) (o : Outcome) (t : State) : Prop := o = .returned (some (.int 1)) ∧ Framed s o t [] 600000 7302250
def lw_Z (below : List Frame) (a : Array Value) (s : State) : State → Prop := fun t => ∃ o, t.status = .running ∧ Ended t below o ∧ lw_Q a s o t
/-- the law's own end, with 1 on the stack, nothing written that was there before, its room as the claim has it -/
theorem lw_ret {p : Program} {l : Launch} {e : Env} {s : State} {m : MethodId} {below : List Frame} {meth : Method} {c : Code} {b : Nat} (hx : p.tables.exec = Jvm.exec) (hb : c.code = code) (hr : meth.sig.returnType = ret) (hlocks : meth.locks = false) {pc : Nat} {H : Heap} {ls : Array Slot} (hdg : decode code pc = .ok (.ireturn, 1)) : W p l e room_1 s m #[Value.ref b] below meth c H [] 600000 7302250 (lw_Z below #[Value.ref b] s) (F0 m pc ls [.int 1]) := by
  intro T hT X
  obtain ⟨fs, hret, hrun, hended, hW, hframe⟩ := X.leave (v := some (.int 1)) (hlocks := hlocks) (fun h => by rw [hr] at h; cases h)
  have hmeth' : T.vm.method? m = some meth := X.method'
  refine ⟨T.setFrames fs, ?_, .returned (some (.int 1)), hrun, hended, rfl, ⟨_, rfl⟩, hW, hframe⟩
  jvm_step X.here [X.here.top, hx, hb, hdg, hmeth', hr, ret, narrow_b1]
  (try refine ⟨rfl, ?_⟩); (try refine ⟨rfl, ?_⟩)
  first | (intro acts; rw [hret _ acts rfl rfl rfl]) | rw [hret _ _ rfl rfl rfl]
  exact Steps.refl _
/-- what holds at the law's entry: the machine, the code, the tables' words (any of lw_tbl by 'hts w (by decide +kernel)'), the script of L ints xs at the cell b, what the Statement gives of the start (any of its parts by flat_of_before) -/
def lw_At (p : Program) (s : State) (m : MethodId) (meth : Method) (c : Code) (b L : Nat) (xs : Nat → Int32) : Prop :=
  p.tables.exec = Jvm.exec ∧ c.code = code ∧ meth.sig.returnType = ret ∧ c.maxLocals = 4 ∧ s.vm.findClass R_law = some m.cls ∧ (∀ w ∈ lw_tbl, w.before #[Value.ref b] s = true) ∧ va_X b L xs s s.heap ∧ b < s.heap.size ∧ meth.locks = false ∧ (Jvm.Cond.and given_1 narrow_1).before #[Value.ref b] s = true
theorem L_L_X4_init : LnkI RL 9 yX4_init cX4_init 2 0 := ⟨w_65, w_66, rfl, w_55, w_67, ⟨by decide +kernel, by decide +kernel⟩, by decide +kernel⟩
theorem L_L_X5_init : LnkI RL 12 yX5_init cX5_init 2 0 := ⟨w_634, w_635, rfl, w_60, w_636, ⟨by decide +kernel, by decide +kernel⟩, by decide +kernel⟩
theorem sw_of (v : Int32) : (v.toInt < 0 ∨ 37 < v.toInt) ∨ ∃ j : Nat, j < 38 ∧ v = nI j := by
  by_cases c : v.toInt < 0 ∨ 37 < v.toInt
  · exact Or.inl c
  · refine Or.inr ⟨v.toInt.toNat, by omega, Int32.toInt_inj.mp ?_⟩
    rw [nI_toInt (by omega)]
    omega
theorem bl_X5 : ∀ j, j < 2 → defaultValue (tyX5 j) = vp_V [.null, .int (nI 0)] j := by
  intro j hj
  rcases (show j = 0 ∨ j = 1 by omega) with q | q <;> subst q <;> rfl
set_option maxHeartbeats 4000000 in
set_option maxRecDepth 100000 in
theorem law_loop {p : Program} {l : Launch} {e : Env} {s : State} {m : MethodId} {below : List Frame} {meth : Method} {c : Code} {b L : Nat} {xs : Nat → Int32} {g : kG} {x a : Nat → Nat} {M : Nat → Prop} {o q top : Nat} (hC : CallFix p m c cL_law 4 s #[Value.ref b] lw_good RL) (hr : meth.sig.returnType = ret) (hlocks : meth.locks = false) (hK : KK g s) (hXs : va_X b L xs s s.heap) (hbl : b < s.heap.size) (hL : L ≤ 3072) (hc0 : LC x M o q s.heap.size top) : ∀ (k i : Nat) (f : Nat → Int32) (n : Nat) (H : Heap) (locs : List Loc) (ls : Array Slot), L < 6 * (i + k) → 6 * i ≤ L → LJ g x a M o q top f n H → va_S (fun z => s.heap.size ≤ z) s.heap H locs → lv_has ls 4 [(3, .int (nI (6 * i))), (2, .ref o), (1, .ref (x 0)), (0, .ref b)] → W p l e room_1 s m #[Value.ref b] below meth c H locs (100 + 3 * i) (4000 + 46 * i) (lw_Z below #[Value.ref b] s) (F0 m 18 ls []) := by
  have hx := hC.1
  have hb := hC.2.1
  intro k
  induction k with
  | zero => intro i f n H locs ls h1 h2; omega
  | succ k ih =>
    intro i f n H locs ls h1 h2 hJ hS hl
    refine lv_iload_n hx hb dL_law_18 rfl (lvG hl rfl) ?_
    refine lv_aload_n hx hb dL_law_19 rfl (lvG hl rfl) ?_
    refine va_slen hx hb hXs hbl (Nat.not_le.mpr hbl) hS dL_law_20 ?_
    refine lv_bipush (v := nI 6) hx hb dL_law_21 (by decide) ?_
    refine lv_isub hx hb dL_law_23 ?_
    have e6 : (Int32.ofNat L - nI 6).toInt = (L : Int) - 6 := by
      have z1 : (Int32.ofNat L).toInt = (L : Int) := nI_toInt (n := L) (by omega)
      have z2 : (nI 6).toInt = 6 := rfl
      rw [fb_subI (by omega) (by omega), z1, z2]
    have ei : (nI (6 * i)).toInt = ((6 * i : Nat) : Int) := nI_toInt (by omega)
    refine lv_icmp_gt (tgt := 1222) hx hb dL_law_24 (by decide) (fun zt => ?_) (fun zf => ?_)
    · refine W.widen (k := 600000) (n := 7302250) (by omega) (by omega) ?_
      refine va_forget hS.2.2 ?_
      refine lv_iconst (v := 1) hx hb dL_law_1222 (by decide) ?_
      exact lw_ret hx hb hr hlocks dL_law_1223
    · have hge : 6 * i + 6 ≤ L := by
        have := mt Int32.lt_iff_toInt_lt.mpr zf
        rw [e6, ei] at this
        omega
      have tail : ∀ (f2 : Nat → Int32) (n2 : Nat) (H2 : Heap) (locs2 : List Loc) (ls2 : Array Slot), LJ g x a M o q top f2 n2 H2 → va_S (fun z => s.heap.size ≤ z) s.heap H2 locs2 → lv_has ls2 4 [(3, .int (nI (6 * i))), (2, .ref o), (1, .ref (x 0)), (0, .ref b)] → W p l e room_1 s m #[Value.ref b] below meth c H2 locs2 (100 + 3 * i + 3) (4000 + 46 * i + 46) (lw_Z below #[Value.ref b] s) (F0 m 1216 ls2 []) := by
        intro f2 n2 H2 locs2 ls2 hJ2 hS2 hl2
        refine lv_iinc (v := nI (6 * (i + 1))) (lv' := [(3, .int (nI (6 * (i + 1)))), (2, .ref o), (1, .ref (x 0)), (0, .ref b)]) hx hb dL_law_1216 hl2 (k := 0) rfl (by rw [show (Int32.ofInt 6) = nI 6 by decide, nI_add]; rfl) (by decide) rfl (fun ls3 hl3 => ?_)
        refine lv_goto (tgt := 18) hx hb dL_law_1219 (by decide) ?_
        refine W.widen (k := 100 + 3 * (i + 1)) (n := 4000 + 46 * (i + 1)) (by omega) (by omega) ?_
        exact ih (i + 1) f2 n2 H2 locs2 ls3 (by omega) (by omega) hJ2 hS2 hl3
      refine lv_aload_n hx hb dL_law_27 rfl (lvG hl rfl) ?_
      refine lv_iload_n hx hb dL_law_28 rfl (lvG hl rfl) ?_
      refine l_sld hC hXs hbl hS (show 6 * i < L by omega) hL dL_law_29 ?_
      refine lv_bipush (v := nI 63) hx hb dL_law_30 (by decide) ?_
      refine lv_iand hx hb dL_law_32 ?_
      generalize xs (6 * i) &&& nI 63 = v
      have hcl : 100 + 3 * i + 3 ≤ 600000 := by omega
      have hsl : 4000 + 46 * i + 46 ≤ 7302250 := by omega
      rcases sw_of v with h | ⟨j, hj, ej⟩
      · refine lv_tableOut (tgt := 1216) hx hb dL_law_33 h (by decide) ?_
        refine W.widen (k := 100 + 3 * i + 3) (n := 4000 + 46 * i + 46) (by omega) (by omega) ?_
        exact tail f n H locs ls hJ hS hl
      · subst ej
        rcases (show j = 0 ∨ j = 1 ∨ j = 2 ∨ j = 3 ∨ j = 4 ∨ j = 5 ∨ j = 6 ∨ j = 7 ∨ j = 8 ∨ j = 9 ∨ j = 10 ∨ j = 11 ∨ j = 12 ∨ j = 13 ∨ j = 14 ∨ j = 15 ∨ j = 16 ∨ j = 17 ∨ j = 18 ∨ j = 19 ∨ j = 20 ∨ j = 21 ∨ j = 22 ∨ j = 23 ∨ j = 24 ∨ j = 25 ∨ j = 26 ∨ j = 27 ∨ j = 28 ∨ j = 29 ∨ j = 30 ∨ j = 31 ∨ j = 32 ∨ j = 33 ∨ j = 34 ∨ j = 35 ∨ j = 36 ∨ j = 37 by omega) with z | z | z | z | z | z | z | z | z | z | z | z | z | z | z | z | z | z | z | z | z | z | z | z | z | z | z | z | z | z | z | z | z | z | z | z | z | z
        · subst z
          refine lv_tableIn (off := 167) (tgt := 200) hx hb dL_law_33 (by decide) (by decide) rfl (by decide) ?_
          exact law_0 hC hK hXs hbl hL hge hc0 hJ hS hcl hsl hl tail
        · subst z
          refine lv_tableIn (off := 190) (tgt := 223) hx hb dL_law_33 (by decide) (by decide) rfl (by decide) ?_
          exact law_1 hC hK hXs hbl hL hge hc0 hJ hS hcl hsl hl tail
        · subst z
          refine lv_tableIn (off := 223) (tgt := 256) hx hb dL_law_33 (by decide) (by decide) rfl (by decide) ?_
          exact law_2 hC hK hXs hbl hL hge hc0 hJ hS hcl hsl hl tail
        · subst z
          refine lv_tableIn (off := 246) (tgt := 279) hx hb dL_law_33 (by decide) (by decide) rfl (by decide) ?_
          exact law_3 hC hK hXs hbl hL hge hc0 hJ hS hcl hsl hl tail
        · subst z
          refine lv_tableIn (off := 269) (tgt := 302) hx hb dL_law_33 (by decide) (by decide) rfl (by decide) ?_
          exact law_4 hC hK hXs hbl hL hge hc0 hJ hS hcl hsl hl tail
        · subst z
          refine lv_tableIn (off := 292) (tgt := 325) hx hb dL_law_33 (by decide) (by decide) rfl (by decide) ?_
          exact law_5 hC hK hXs hbl hL hge hc0 hJ hS hcl hsl hl tail
        · subst z
          refine lv_tableIn (off := 325) (tgt := 358) hx hb dL_law_33 (by decide) (by decide) rfl (by decide) ?_
          exact law_6 hC hK hXs hbl hL hge hc0 hJ hS hcl hsl hl tail
        · subst z
          refine lv_tableIn (off := 388) (tgt := 421) hx hb dL_law_33 (by decide) (by decide) rfl (by decide) ?_
          exact law_7 hC hK hXs hbl hL hge hc0 hJ hS hcl hsl hl tail
        · subst z
          refine lv_tableIn (off := 421) (tgt := 454) hx hb dL_law_33 (by decide) (by decide) rfl (by decide) ?_
          exact law_8 hC hK hXs hbl hL hge hc0 hJ hS hcl hsl hl tail
        · subst z
          refine lv_tableIn (off := 454) (tgt := 487) hx hb dL_law_33 (by decide) (by decide) rfl (by decide) ?_
          exact law_9 hC hK hXs hbl hL hge hc0 hJ hS hcl hsl hl tail
        · subst z
          refine lv_tableIn (off := 497) (tgt := 530) hx hb dL_law_33 (by decide) (by decide) rfl (by decide) ?_
          exact law_10 hC hK hXs hbl hL hge hc0 hJ hS hcl hsl hl tail
        · subst z
          refine lv_tableIn (off := 510) (tgt := 543) hx hb dL_law_33 (by decide) (by decide) rfl (by decide) ?_
          exact law_11 hC hK hXs hbl hL hge hc0 hJ hS hcl hsl hl tail
        · subst z
          refine lv_tableIn (off := 563) (tgt := 596) hx hb dL_law_33 (by decide) (by decide) rfl (by decide) ?_
          exact law_12 hC hK hXs hbl hL hge hc0 hJ hS hcl hsl hl tail
        · subst z
          refine lv_tableIn (off := 586) (tgt := 619) hx hb dL_law_33 (by decide) (by decide) rfl (by decide) ?_
          exact law_13 hC hK hXs hbl hL hge hc0 hJ hS hcl hsl hl tail
        · subst z
          refine lv_tableIn (off := 599) (tgt := 632) hx hb dL_law_33 (by decide) (by decide) rfl (by decide) ?_
          exact law_14 hC hK hXs hbl hL hge hc0 hJ hS hcl hsl hl tail
        · subst z
          refine lv_tableIn (off := 622) (tgt := 655) hx hb dL_law_33 (by decide) (by decide) rfl (by decide) ?_
          exact law_15 hC hK hXs hbl hL hge hc0 hJ hS hcl hsl hl tail
        · subst z
          refine lv_tableIn (off := 645) (tgt := 678) hx hb dL_law_33 (by decide) (by decide) rfl (by decide) ?_
          exact law_16 hC hK hXs hbl hL hge hc0 hJ hS hcl hsl hl tail
        · subst z
          refine lv_tableIn (off := 688) (tgt := 721) hx hb dL_law_33 (by decide) (by decide) rfl (by decide) ?_
          exact law_17 hC hK hXs hbl hL hge hc0 hJ hS hcl hsl hl tail
        · subst z
          refine lv_tableIn (off := 711) (tgt := 744) hx hb dL_law_33 (by decide) (by decide) rfl (by decide) ?_
          exact law_18 hC hK hXs hbl hL hge hc0 hJ hS hcl hsl hl tail
        · subst z
          refine lv_tableIn (off := 734) (tgt := 767) hx hb dL_law_33 (by decide) (by decide) rfl (by decide) ?_
          exact law_19 hC hK hXs hbl hL hge hc0 hJ hS hcl hsl hl tail
        · subst z
          refine lv_tableIn (off := 757) (tgt := 790) hx hb dL_law_33 (by decide) (by decide) rfl (by decide) ?_
          exact law_20 hC hK hXs hbl hL hge hc0 hJ hS hcl hsl hl tail
        · subst z
          refine lv_tableIn (off := 780) (tgt := 813) hx hb dL_law_33 (by decide) (by decide) rfl (by decide) ?_
          exact law_21 hC hK hXs hbl hL hge hc0 hJ hS hcl hsl hl tail
        · subst z
          refine lv_tableIn (off := 803) (tgt := 836) hx hb dL_law_33 (by decide) (by decide) rfl (by decide) ?_
          exact law_22 hC hK hXs hbl hL hge hc0 hJ hS hcl hsl hl tail
        · subst z
          refine lv_tableIn (off := 827) (tgt := 860) hx hb dL_law_33 (by decide) (by decide) rfl (by decide) ?_
          exact law_23 hC hK hXs hbl hL hge hc0 hJ hS hcl hsl hl tail
        · subst z
          refine lv_tableIn (off := 860) (tgt := 893) hx hb dL_law_33 (by decide) (by decide) rfl (by decide) ?_
          exact law_24 hC hK hXs hbl hL hge hc0 hJ hS hcl hsl hl tail
        · subst z
          refine lv_tableIn (off := 893) (tgt := 926) hx hb dL_law_33 (by decide) (by decide) rfl (by decide) ?_
          exact law_25 hC hK hXs hbl hL hge hc0 hJ hS hcl hsl hl tail
        · subst z
          refine lv_tableIn (off := 916) (tgt := 949) hx hb dL_law_33 (by decide) (by decide) rfl (by decide) ?_
          exact law_26 hC hK hXs hbl hL hge hc0 hJ hS hcl hsl hl tail
        · subst z
          refine lv_tableIn (off := 949) (tgt := 982) hx hb dL_law_33 (by decide) (by decide) rfl (by decide) ?_
          exact law_27 hC hK hXs hbl hL hge hc0 hJ hS hcl hsl hl tail
        · subst z
          refine lv_tableIn (off := 972) (tgt := 1005) hx hb dL_law_33 (by decide) (by decide) rfl (by decide) ?_
          exact law_28 hC hK hXs hbl hL hge hc0 hJ hS hcl hsl hl tail
        · subst z
          refine lv_tableIn (off := 995) (tgt := 1028) hx hb dL_law_33 (by decide) (by decide) rfl (by decide) ?_
          exact law_29 hC hK hXs hbl hL hge hc0 hJ hS hcl hsl hl tail
        · subst z
          refine lv_tableIn (off := 1018) (tgt := 1051) hx hb dL_law_33 (by decide) (by decide) rfl (by decide) ?_
          exact law_30 hC hK hXs hbl hL hge hc0 hJ hS hcl hsl hl tail
        · subst z
          refine lv_tableIn (off := 1042) (tgt := 1075) hx hb dL_law_33 (by decide) (by decide) rfl (by decide) ?_
          exact law_31 hC hK hXs hbl hL hge hc0 hJ hS hcl hsl hl tail
        · subst z
          refine lv_tableIn (off := 1055) (tgt := 1088) hx hb dL_law_33 (by decide) (by decide) rfl (by decide) ?_
          exact law_32 hC hK hXs hbl hL hge hc0 hJ hS hcl hsl hl tail
        · subst z
          refine lv_tableIn (off := 1088) (tgt := 1121) hx hb dL_law_33 (by decide) (by decide) rfl (by decide) ?_
          exact law_33 hC hK hXs hbl hL hge hc0 hJ hS hcl hsl hl tail
        · subst z
          refine lv_tableIn (off := 1111) (tgt := 1144) hx hb dL_law_33 (by decide) (by decide) rfl (by decide) ?_
          exact law_34 hC hK hXs hbl hL hge hc0 hJ hS hcl hsl hl tail
        · subst z
          refine lv_tableIn (off := 1144) (tgt := 1177) hx hb dL_law_33 (by decide) (by decide) rfl (by decide) ?_
          exact law_35 hC hK hXs hbl hL hge hc0 hJ hS hcl hsl hl tail
        · subst z
          refine lv_tableIn (off := 1157) (tgt := 1190) hx hb dL_law_33 (by decide) (by decide) rfl (by decide) ?_
          exact law_36 hC hK hXs hbl hL hge hc0 hJ hS hcl hsl hl tail
        · subst z
          refine lv_tableIn (off := 1170) (tgt := 1203) hx hb dL_law_33 (by decide) (by decide) rfl (by decide) ?_
          exact law_37 hC hK hXs hbl hL hge hc0 hJ hS hcl hsl hl tail
set_option maxHeartbeats 4000000 in
set_option maxRecDepth 100000 in
/-- THE LAW, from its entry -/
theorem whole_start {p : Program} {e : Env} {s : State} {m : MethodId} {below : List Frame} {meth : Method} {c : Code} (l : Launch) (hflags : l.flags = flags0) {b L : Nat} {xs : Nat → Int32} (hL : L ≤ 3072) (C0 : lw_At p s m meth c b L xs) : W p l e room_1 s m #[Value.ref b] below meth c s.heap [] 0 0 (lw_Z below #[Value.ref b] s) (entryFrame m ([Value.ref b] : List Value).toArray 4) := by
  obtain ⟨hx, hb, hr, hml, hown, hts, hX, hbl, hlocks, hgv⟩ := C0
  have hC : CallFix p m c cL_law 4 s #[Value.ref b] lw_good RL := ⟨hx, hb, hml, hown, fun w hw => hts w (List.mem_filter.mp hw).1⟩
  obtain ⟨g, hK⟩ := KK_start hts
  have hl := lv_entry ([.ref b]) (n := 4) (Nat.le_of_ble_eq_true rfl)
  rw [lg_entry_eq]
  generalize (lg_sl ([.ref b]) ++ List.replicate (4 - (lg_sl ([.ref b])).length) Slot.unset).toArray = ls at hl ⊢
  have hl : lv_has ls 4 [(0, .ref b)] := hl
  have hS : va_S (fun z => s.heap.size ≤ z) s.heap s.heap [] := va_S.rf
  refine k_newO (ci := 4) (fs := [.null, .null, .int (nI 0), .null, .null, .null, .null]) (C := RX4) (T := TX4) (N := 7) hC hK i_X4 tyX4 tyX4_ok w_63 w_64 w_55 hS rfl (by exact bl_X4) (Nat.le_of_ble_eq_true rfl) (Nat.le_of_ble_eq_true rfl) dL_law_0 (fun q0 H1 eq0 hv0 hz0 hk0 hS1 => ?_)
  refine lv_dup hx hb dL_law_3 rfl ?_
  refine k_callMV (k_goI (rest := [.ref q0]) hC hK (c_X4_init l g q0) L_L_X4_init ⟨⟨Nat.le_of_ble_eq_true rfl, Nat.le_of_ble_eq_true rfl⟩, ⟨rfl, rfl⟩, ⟨Nat.le_of_ble_eq_true rfl, Nat.le_of_ble_eq_true rfl⟩⟩ ⟨by omega, hv0⟩ rfl hl.1 rfl (Nat.le_of_ble_eq_true rfl) dL_law_4) hS1 (fun z h => by have h8 : q0 ≤ z := h; show s.heap.size ≤ z; omega) (fun H2 locs2 hq2 hz2 hk2 hS2 => ?_)
  obtain ⟨hs2, hX2⟩ := hq2
  refine lv_astore_n (lv' := [(1, .ref q0), (0, .ref b)]) hx hb dL_law_7 rfl hl (by decide) rfl (fun ls hl => ?_)
  refine k_newO (ci := 5) (fs := [.null, .int (nI 0)]) (C := RX5) (T := TX5) (N := 2) hC hK i_X5 tyX5 tyX5_ok w_632 w_633 w_60 hS2 rfl (by exact bl_X5) (Nat.le_of_ble_eq_true rfl) (Nat.le_of_ble_eq_true rfl) dL_law_8 (fun o H3 eq3 hv3 hz3 hk3 hS3 => ?_)
  refine lv_dup hx hb dL_law_11 rfl ?_
  refine k_callMV (k_goI (rest := [.ref o]) hC hK (c_X5_init l g o (Array.size H3)) L_L_X5_init ⟨⟨Nat.le_of_ble_eq_true rfl, Nat.le_of_ble_eq_true rfl⟩, ⟨rfl, rfl⟩, ⟨Nat.le_of_ble_eq_true rfl, Nat.le_of_ble_eq_true rfl⟩⟩ ⟨rfl, va_one hv3⟩ rfl hl.1 rfl (Nat.le_of_ble_eq_true rfl) dL_law_12) hS3 (fun z h => by have h8 : z = o ∨ Array.size H3 ≤ z := h; show s.heap.size ≤ z; omega) (fun H4 locs4 hq4 hz4 hk4 hS4 => ?_)
  obtain ⟨q, hq, hRP⟩ := hq4
  refine lv_astore_n (lv' := [(2, .ref o), (1, .ref q0), (0, .ref b)]) hx hb dL_law_15 rfl hl (by decide) rfl (fun ls hl => ?_)
  refine lv_iconst (v := nI 0) hx hb dL_law_16 (by decide) ?_
  refine lv_istore_n (lv' := [(3, .int (nI 0)), (2, .ref o), (1, .ref q0), (0, .ref b)]) hx hb dL_law_17 rfl hl (by decide) rfl (fun ls hl => ?_)
  refine W.widen (k := 100 + 3 * 0) (n := 4000 + 46 * 0) (by decide) (by decide) ?_
  have ho4 : o < Array.size H4 := (hRP.2.2 0 _ rfl).lt
  have hq4 : q < Array.size H4 := (hRP.2.2 1 _ rfl).lt
  have hX4 : XW g (fun k => if k = 8 then o else if k = 9 then q else k_xd q0 k) (k_ad (q0 + 7)) (k_M q0) s_ini 0 H4 :=
    (hX2.rex (o := o) (q := q) (by omega) (by omega)).old (fun z hz => (hk4 z (by omega) (fun c => by have c8 : z = o ∨ Array.size H3 ≤ z := c; omega)).trans (hk3 z hz))
  have hLC : LC (fun k => if k = 8 then o else if k = 9 then q else k_xd q0 k) (k_M q0) o q s.heap.size (Array.size H4) := by
    have hM : ∀ z, k_M q0 z → q0 ≤ z ∧ z < q0 + 43 := fun z h => h.1
    have hSC : ∀ z, SC (fun k => if k = 8 then o else if k = 9 then q else k_xd q0 k) z → q0 ≤ z ∧ z < q0 + 43 := fun z h => by
      have := SC_iff.mp (show SC (k_xd q0) z from h)
      omega
    refine ⟨⟨rfl, rfl⟩, fun z h => ?_, fun z h => ?_⟩
    · have : q0 ≤ z ∧ z < q0 + 43 := h.elim (hM z) (hSC z)
      omega
    · rcases h with h | h | h | h
      · have := hM z h; omega
      · have := hSC z h; omega
      · have e9 : z = o := h
        omega
      · have e9 : z = q := h
        omega
  exact law_loop hC hr hlocks hK hX hbl hL hLC (L + 1) 0 s_ini 0 H4 locs4 ls (by omega) (Nat.zero_le _) ⟨hX4, hRP, ini_GD, Nat.le_refl _⟩ hS4 hl
