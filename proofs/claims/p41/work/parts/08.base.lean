abbrev kCl : List vw_C := [(RX0, TX0, 4), (RX1, TX1, 5), (RX2, TX2, 4), (RX3, TX3, 13), (RX4, TX4, 7)]
abbrev kG : Type := va_G × (ClassId × (ClassId × ClassId))
abbrev kTy (g : kG) : List (ClassId × FieldType) := [(g.2.1, .int), (g.2.2.1, .object RX0), (g.2.2.2, .object RX3)]
/-- what the tables say of the classes, the arrays, the two nest links -/
def KK (g : kG) (U : State) : Prop := va_K g.1 kCl (kTy g) U ∧ va_Nw (.methodLinkNest RX2 24 yX4_isWithin RX4) U ∧ va_Nw (.methodLinkNest RX0 34 yX4_quotient RX4) U ∧ va_AO RX0 U ∧ va_AO RX3 U
theorem KK.moved {g : kG} {s U : State} (hW : s.WarmedH U.vm) (h : KK g s) : KK g U :=
  ⟨va_K.moved hW.alike h.1, va_Nw.warmM hW h.2.1, va_Nw.warmM hW h.2.2.1, va_AO.moved hW.alike h.2.2.2.1, va_AO.moved hW.alike h.2.2.2.2⟩
theorem KK.same {g : kG} {u U : State} (h : u.vm = U.vm) (k : KK g u) : KK g U :=
  ⟨va_K.moved (h ▸ Vm.Alike.refl u.vm) k.1, va_Nw.same rfl h k.2.1, va_Nw.same rfl h k.2.2.1, va_AO.moved (h ▸ Vm.Alike.refl u.vm) k.2.2.2.1, va_AO.moved (h ▸ Vm.Alike.refl u.vm) k.2.2.2.2⟩
abbrev kPc (as : List Value) (Pre : Heap → Prop) (g : kG) : Array Value → State → Prop := va_Pc as (fun U => Pre U.heap ∧ KK g U)
theorem kPc_blind {as : List Value} {Pre : Heap → Prop} {g : kG} : FrameBlind (kPc as Pre g) := fun a U gg mk q => ⟨q.1, q.2.1, KK.same (u := U) (U := U.calling gg mk a) rfl q.2.2⟩
abbrev kw (y : MethodName) (b : ByteArray) (n : Nat) (r : Option FieldType) : List Cond := Cond.code y b n r :: lw_good
theorem lw_goodIn : GoodIn lw_good lw_good := fun w hw => ⟨hw, good_of_word (List.mem_filter.mp hw).2⟩
abbrev rr (f L : Nat) : Room := { frames := f, cells := 0, slots := 0, locals := L }
abbrev rc (f L k n : Nat) : Room := { frames := f, cells := k, slots := n, locals := L }
def kno (y : MethodName) (n : Nat) : Prop := (y.cls ≠ "java/lang/invoke/MethodHandle" ∧ y.cls ≠ "java/lang/invoke/VarHandle") ∧ (parseMethodDescriptor y.desc).map (fun d => d.parameters.length) = some n
def LnkV (own : String) (idx : Nat) (y : MethodName) (b : ByteArray) (mL : Nat) (ret : Option FieldType) (n : Nat) : Prop :=
  Cond.methodLink own idx y ∈ lw_good ∧ Cond.instanceMethod y ∈ lw_good ∧ Cond.selects y.cls y y ∈ lw_good ∧ Cond.initialized y.cls ∈ lw_good ∧ Cond.code y b mL ret ∈ lw_good ∧ kno y n
def LnkS (own : String) (idx : Nat) (y : MethodName) (b : ByteArray) (mL : Nat) (ret : Option FieldType) (n : Nat) : Prop :=
  Cond.methodLink own idx y ∈ lw_good ∧ Cond.static y ∈ lw_good ∧ Cond.initialized y.cls ∈ lw_good ∧ Cond.code y b mL ret ∈ lw_good ∧ kno y n
def LnkI (own : String) (idx : Nat) (y : MethodName) (b : ByteArray) (mL : Nat) (n : Nat) : Prop :=
  Cond.methodLink own idx y ∈ lw_good ∧ Cond.instanceMethod y ∈ lw_good ∧ y.name = "<init>" ∧ Cond.initialized y.cls ∈ lw_good ∧ Cond.code y b mL none ∈ lw_good ∧ kno y n
def LnkN (own : String) (idx : Nat) (y : MethodName) (host : String) (b : ByteArray) (mL : Nat) (ret : Option FieldType) (n : Nat) : Prop :=
  Cond.static y ∈ lw_good ∧ Cond.initialized y.cls ∈ lw_good ∧ Cond.code y b mL ret ∈ lw_good ∧ kno y n
theorem good_cons {y : MethodName} {b : ByteArray} {mL : Nat} {ret : Option FieldType} (h : Cond.code y b mL ret ∈ lw_good) : GoodIn lw_good (kw y b mL ret) := by
  intro w hw
  rcases List.mem_cons.mp hw with e | h2
  · rw [e]; exact lw_goodIn _ h
  · exact lw_goodIn _ h2
theorem LnkV.good {own : String} {idx : Nat} {y : MethodName} {b : ByteArray} {mL : Nat} {ret : Option FieldType} {n : Nat} (L : LnkV own idx y b mL ret n) : GoodIn lw_good (wsV own idx y.cls y (kw y b mL ret)) := by
  obtain ⟨h1, h2, h3, h4, h5, -⟩ := L
  intro w hw
  unfold wsV at hw
  rcases List.mem_append.mp hw with h | h
  · simp only [List.mem_cons, List.not_mem_nil, or_false] at h
    rcases h with e | e | e | e
    · rw [e]; exact lw_goodIn _ h1
    · rw [e]; exact lw_goodIn _ h2
    · rw [e]; exact lw_goodIn _ h3
    · rw [e]; exact lw_goodIn _ h4
  · exact good_cons h5 _ h
theorem LnkS.good {own : String} {idx : Nat} {y : MethodName} {b : ByteArray} {mL : Nat} {ret : Option FieldType} {n : Nat} (L : LnkS own idx y b mL ret n) : GoodIn lw_good (va_wsS own idx y (kw y b mL ret)) := by
  obtain ⟨h1, h2, h3, h5, -⟩ := L
  intro w hw
  unfold va_wsS at hw
  rcases List.mem_append.mp hw with h | h
  · simp only [List.mem_cons, List.not_mem_nil, or_false] at h
    rcases h with e | e | e
    · rw [e]; exact lw_goodIn _ h1
    · rw [e]; exact lw_goodIn _ h2
    · rw [e]; exact lw_goodIn _ h3
  · exact good_cons h5 _ h
/-! contracts: pure ones (the heap stays), and writing ones -/
abbrev PI (l : Launch) (y : MethodName) (b : ByteArray) (n : Nat) (rt : Option FieldType) (rm : Room) (as : List Value) (Pre : Heap → Prop) (g : kG) (E : Int32) : Prop := Met l y (kw y b n rt) rm (kPc as Pre g) (vp_Si (fun r => r = E)) 0 0 (fun _ => False)
abbrev PL (l : Launch) (y : MethodName) (b : ByteArray) (n : Nat) (rt : Option FieldType) (rm : Room) (as : List Value) (Pre : Heap → Prop) (g : kG) (E : Int64) : Prop := Met l y (kw y b n rt) rm (kPc as Pre g) (vp_Sl (fun r => r = E)) 0 0 (fun _ => False)
abbrev PR (l : Launch) (y : MethodName) (b : ByteArray) (n : Nat) (rt : Option FieldType) (rm : Room) (as : List Value) (Pre : Heap → Prop) (g : kG) (E : Nat) : Prop := Met l y (kw y b n rt) rm (kPc as Pre g) (va_Sr (fun r => r = E) Value.ref) 0 0 (fun _ => False)
def qI (A : Nat → Prop) (post : Int32 → Heap → Prop) : Array Value → State → Outcome → State → Prop := va_Qi (S := Int32) (fun r u => r = u) (fun u t => post u t.heap) A
def qL (A : Nat → Prop) (post : Int64 → Heap → Prop) : Array Value → State → Outcome → State → Prop := va_Ql (S := Int64) (fun r u => r = u) (fun u t => post u t.heap) A
def qV (A : Nat → Prop) (post : Heap → Prop) : Array Value → State → Outcome → State → Prop := va_Qv (S := Unit) (fun _ => True) (fun _ t => post t.heap) A
abbrev MI (l : Launch) (y : MethodName) (b : ByteArray) (n : Nat) (rt : Option FieldType) (rm : Room) (as : List Value) (Pre : Heap → Prop) (g : kG) (mc ms : Nat) (A : Nat → Prop) (post : Int32 → Heap → Prop) : Prop := Met l y (kw y b n rt) rm (kPc as Pre g) (qI A post) mc ms A
abbrev ML (l : Launch) (y : MethodName) (b : ByteArray) (n : Nat) (rt : Option FieldType) (rm : Room) (as : List Value) (Pre : Heap → Prop) (g : kG) (mc ms : Nat) (A : Nat → Prop) (post : Int64 → Heap → Prop) : Prop := Met l y (kw y b n rt) rm (kPc as Pre g) (qL A post) mc ms A
abbrev MV (l : Launch) (y : MethodName) (b : ByteArray) (n : Nat) (rt : Option FieldType) (rm : Room) (as : List Value) (Pre : Heap → Prop) (g : kG) (mc ms : Nat) (A : Nat → Prop) (post : Heap → Prop) : Prop := Met l y (kw y b n rt) rm (kPc as Pre g) (qV A post) mc ms A
theorem kOf {l : Launch} {y : MethodName} {b : ByteArray} {n : Nat} {rt : Option FieldType} {rm : Room} {as : List Value} {Pre : Heap → Prop} {g : kG} {Qc : Array Value → State → Outcome → State → Prop} {mc ms : Nat} {free : Addr → Prop}
    (hy : plainName y.cls = true) (hle : (lg_sl as).length ≤ n)
    (body : ∀ (p : Program) (e : Env) (s : State) (m : MethodId) (below : List Frame) (meth : Method) (c : Code) (ls : Array Slot), CallFix p m c b n s as.toArray lw_good y.cls → meth.sig.returnType = rt → meth.locks = false → meth.name = y.name → KK g s → Pre s.heap → lv_has ls n (lv_args 0 as) →
      W p l e rm s m as.toArray below meth c s.heap [] 0 0 (MQ below Qc as.toArray s mc ms free) (F0 m 0 ls [])) : Met l y (kw y b n rt) rm (kPc as Pre g) Qc mc ms free := by
  refine Met.ofW (cc := b) (maxL := n) (ret := rt) hy rfl ?_
  intro p e s m args below meth c s₁ B hml hv
  obtain ⟨rfl, hpre, hK⟩ := hv
  have hts0 := atoms_spec (ws := kw y b n rt) B.pre
  have hts : ∀ w ∈ lw_good, w.before as.toArray s = true := fun w hw => hts0 w (List.mem_cons_of_mem _ hw)
  have hown : s.vm.findClass y.cls = some m.cls := findClass_of_methodNamed B.named
  have hin : meth.name = y.name := (name_of_methodNamed B.named B.method).1
  rw [lg_entry_eq]
  exact body p e s m below meth c _ ⟨B.exec, B.bytes, hml, hown, hts⟩ B.returns B.notSynchronized hin hK hpre (lv_entry as hle)
theorem lvG {ls : Array Slot} {nL : Nat} {lv : List (Nat × Value)} (h : lv_has ls nL lv) {i : Nat} {v : Value} (hk : lv.find? (fun q => q.1 == i) = some (i, v)) : ls[i]? = some (.val v) := h.2.2 (i, v) (List.mem_of_find?_eq_some hk)
theorem lv_eq {ls : Array Slot} {nL : Nat} {a b : List (Nat × Value)} (h : lv_has ls nL a) (e : a = b) : lv_has ls nL b := e ▸ h
section KB
variable {p : Program} {l : Launch} {e : Env} {R : Room} {s : State} {m : MethodId} {args : Array Value} {below : List Frame} {meth : Method} {c : Code} {H : Heap} {locs : List Loc} {cells slots : Nat} {Q : State → Prop}
variable {cc : ByteArray} {pc nL : Nat} {ls : Array Slot} {own : String} {g : kG}
/-! ends -/
theorem k_iret {v E : Int32} (hC : CallFix p m c cc nL s args lw_good own) (hr : meth.sig.returnType = some .int) (hlk : meth.locks = false) (hdg : decode cc pc = .ok (.ireturn, 1)) (hv : v = E) : W p l e R s m args below meth c s.heap [] 0 0 (MQ below (vp_Si (fun r => r = E)) args s 0 0 (fun _ => False)) (F0 m pc ls [.int v]) :=
  W.iret hC.1 hC.2.1 hr (fun t ht _ => ⟨v, rfl, hv, ht⟩) (fun q h => by cases h) hdg hlk
theorem k_nar0 : narrow .boolean (.int 0) = .int 0 := by decide +kernel
theorem k_nar1 : narrow .boolean (.int 1) = .int 1 := by decide +kernel
theorem k_narb {b : Prop} [Decidable b] : narrow .boolean (.int (if b then 1 else 0)) = .int (if b then 1 else 0) := by split <;> decide +kernel
theorem k_zret {v E : Int32} (hC : CallFix p m c cc nL s args lw_good own) (hr : meth.sig.returnType = some .boolean) (hlk : meth.locks = false) (hdg : decode cc pc = .ok (.ireturn, 1)) (hn : narrow .boolean (.int v) = .int v) (hv : v = E) : W p l e R s m args below meth c s.heap [] 0 0 (MQ below (vp_Si (fun r => r = E)) args s 0 0 (fun _ => False)) (F0 m pc ls [.int v]) :=
  W.zret hC.1 hC.2.1 hr hn (fun t ht _ => ⟨v, rfl, hv, ht⟩) (fun q h => by cases h) hdg hlk
theorem k_lret {v E : Int64} (hC : CallFix p m c cc nL s args lw_good own) (hr : meth.sig.returnType = some .long) (hlk : meth.locks = false) (hdg : decode cc pc = .ok (.lreturn, 1)) (hv : v = E) : W p l e R s m args below meth c s.heap [] 0 0 (MQ below (vp_Sl (fun r => r = E)) args s 0 0 (fun _ => False)) (F0 m pc ls [.long v]) :=
  W.lret hC.1 hC.2.1 hr (fun t ht _ => ⟨v, rfl, hv, ht⟩) (fun q h => by cases h) hdg hlk
theorem k_aret {v E : Nat} {rt : FieldType} (hC : CallFix p m c cc nL s args lw_good own) (hr : meth.sig.returnType = some rt) (hrt : (∃ n, rt = .object n) ∨ ∃ t, rt = .array t) (hlk : meth.locks = false) (hdg : decode cc pc = .ok (.areturn, 1)) (hv : v = E) : W p l e R s m args below meth c s.heap [] 0 0 (MQ below (va_Sr (fun r => r = E) Value.ref) args s 0 0 (fun _ => False)) (F0 m pc ls [.ref v]) :=
  W.aret hC.1 hC.2.1 hr hrt (Or.inr ⟨v, rfl⟩) (fun t ht _ => ⟨v, rfl, hv, ht⟩) (fun q h => by cases h) hdg hlk
theorem k_iretM {v : Int32} {A : Nat → Prop} {post : Int32 → Heap → Prop} (hC : CallFix p m c cc nL s args lw_good own) (hr : meth.sig.returnType = some .int) (hlk : meth.locks = false) (hS : va_S A s.heap H locs) (hdg : decode cc pc = .ok (.ireturn, 1)) (hv : post v H) : W p l e R s m args below meth c H locs cells slots (MQ below (qI A post) args s cells slots A) (F0 m pc ls [.int v]) :=
  W.iret hC.1 hC.2.1 hr (fun t ht _ => ⟨⟨v, v, rfl, rfl, by show post v t.heap; rw [ht]; exact hv⟩, hS.F ht⟩) hS.2.2 hdg hlk
theorem k_lretM {v : Int64} {A : Nat → Prop} {post : Int64 → Heap → Prop} (hC : CallFix p m c cc nL s args lw_good own) (hr : meth.sig.returnType = some .long) (hlk : meth.locks = false) (hS : va_S A s.heap H locs) (hdg : decode cc pc = .ok (.lreturn, 1)) (hv : post v H) : W p l e R s m args below meth c H locs cells slots (MQ below (qL A post) args s cells slots A) (F0 m pc ls [.long v]) :=
  W.lret hC.1 hC.2.1 hr (fun t ht _ => ⟨⟨v, v, rfl, rfl, by show post v t.heap; rw [ht]; exact hv⟩, hS.F ht⟩) hS.2.2 hdg hlk
theorem k_vretM {A : Nat → Prop} {post : Heap → Prop} (hC : CallFix p m c cc nL s args lw_good own) (hr : meth.sig.returnType = none) (hlk : meth.locks = false) (hS : va_S A s.heap H locs) (hdg : decode cc pc = .ok (.return_, 1)) (hv : post H) : W p l e R s m args below meth c H locs cells slots (MQ below (qV A post) args s cells slots A) (F0 m pc ls []) :=
  W.vret hC.1 hC.2.1 hr (fun t ht _ => ⟨⟨(), rfl, trivial, by show post t.heap; rw [ht]; exact hv⟩, hS.F ht⟩) hS.2.2 hdg hlk
/-! calls -/
def RmOk (rm R : Room) (mL mc ms cells slots : Nat) : Prop := (rm.frames + 1 ≤ R.frames ∧ 8 + (mL + 11) + rm.locals ≤ R.locals) ∧ (rm.cells = mc ∧ rm.slots = ms) ∧ (cells + mc ≤ R.cells ∧ slots + ms ≤ R.slots)
theorem k_goV {rest st0 as : List Value} {y : MethodName} {b : ByteArray} {mL mc ms : Nat} {rt : Option FieldType} {rm : Room} {Pre : Heap → Prop} {Qc : Array Value → State → Outcome → State → Prop} {free : Addr → Prop} {idx n a : Nat}
    (hC : CallFix p m c cc nL s args lw_good own) (hK : KK g s) (hM : Met l y (kw y b mL rt) rm (kPc (.ref a :: as) Pre g) Qc mc ms free) (L : LnkV own idx y b mL rt n) (hR : RmOk rm R mL mc ms cells slots)
    (hrecv : ∃ cellB : Cell, H[a]? = some cellB ∧ cellB.vm.isStatics = false ∧ s.vm.findClass y.cls = some cellB.cls) (hpre : Pre H) (hn : as.length = n) (hsz : ls.size = nL) (hst : st0 = as.reverse ++ .ref a :: rest) (hW : (rest.map fun v => v.category).sum ≤ 8) (hdg : decode cc pc = .ok (.invokevirtual idx, 3)) :
    va_Run p l e R s m args below meth c H locs cells slots mc ms (F0 m pc ls st0) rest (Qc (Value.ref a :: as).toArray) free :=
  va_runV (C := y.cls) (As := as) (rest := rest) hC hM (cwV n hC.2.2.2.2 L.good rfl hR.2.1.1 hR.2.1.2 ⟨rfl, L.2.2.2.2.2.1.1, L.2.2.2.2.2.1.2, L.2.2.2.2.2.2⟩ hR.1) ⟨kPc_blind, hrecv, fun U hU hW => ⟨rfl, by rw [hU]; exact hpre, hK.moved hW⟩⟩ rfl hn hsz hst (lv_room hW) hdg hR.2.2
theorem k_goS {rest st0 as : List Value} {y : MethodName} {b : ByteArray} {mL mc ms : Nat} {rt : Option FieldType} {rm : Room} {Pre : Heap → Prop} {Qc : Array Value → State → Outcome → State → Prop} {free : Addr → Prop} {idx n : Nat}
    (hC : CallFix p m c cc nL s args lw_good own) (hK : KK g s) (hM : Met l y (kw y b mL rt) rm (kPc as Pre g) Qc mc ms free) (L : LnkS own idx y b mL rt n) (hR : RmOk rm R mL mc ms cells slots)
    (hpre : Pre H) (hn : as.length = n) (hsz : ls.size = nL) (hst : st0 = as.reverse ++ rest) (hW : (rest.map fun v => v.category).sum ≤ 8) (hdg : decode cc pc = .ok (.invokestatic idx, 3)) :
    va_Run p l e R s m args below meth c H locs cells slots mc ms (F0 m pc ls st0) rest (Qc as.toArray) free :=
  va_runS (As := as) (rest := rest) hC hM (va_cwS n hC.2.2.2.2 L.good rfl hR.2.1.1 hR.2.1.2 ⟨L.2.2.2.2.1.1, L.2.2.2.2.1.2, L.2.2.2.2.2⟩ hR.1) ⟨kPc_blind, fun U hU hW => ⟨rfl, by rw [hU]; exact hpre, hK.moved hW⟩⟩ rfl hn hsz hst (lv_room hW) hdg hR.2.2
theorem k_goN {rest st0 as : List Value} {y : MethodName} {host : String} {b : ByteArray} {mL mc ms : Nat} {rt : Option FieldType} {rm : Room} {Pre : Heap → Prop} {Qc : Array Value → State → Outcome → State → Prop} {free : Addr → Prop} {idx n : Nat}
    (hC : CallFix p m c cc nL s args lw_good own) (hK : KK g s) (hM : Met l y (kw y b mL rt) rm (kPc as Pre g) Qc mc ms free) (hN : va_Nw (.methodLinkNest own idx y host) s) (L : LnkN own idx y host b mL rt n) (hR : RmOk rm R mL mc ms cells slots)
    (hpre : Pre H) (hn : as.length = n) (hsz : ls.size = nL) (hst : st0 = as.reverse ++ rest) (hW : (rest.map fun v => v.category).sum ≤ 8) (hdg : decode cc pc = .ok (.invokestatic idx, 3)) :
    va_Run p l e R s m args below meth c H locs cells slots mc ms (F0 m pc ls st0) rest (Qc as.toArray) free :=
  va_runSN (As := as) (rest := rest) hC hM ⟨va_cnB n hC.2.2.2.2 (good_cons L.2.2.1) rfl hR.2.1.1 hR.2.1.2 hN (hC.2.2.2.2 _ L.2.1) ⟨L.2.2.2.1.1, L.2.2.2.1.2, L.2.2.2.2⟩ hR.1, hC.2.2.2.2 _ L.1, trivial⟩ ⟨kPc_blind, fun U hU hW => ⟨rfl, by rw [hU]; exact hpre, hK.moved hW⟩⟩ rfl hn hsz hst (lv_room hW) hdg hR.2.2
theorem k_goI {rest st0 as : List Value} {y : MethodName} {b : ByteArray} {mL mc ms : Nat} {rm : Room} {Pre : Heap → Prop} {Qc : Array Value → State → Outcome → State → Prop} {free : Addr → Prop} {idx n a : Nat}
    (hC : CallFix p m c cc nL s args lw_good own) (hK : KK g s) (hM : Met l y (kw y b mL none) rm (kPc (.ref a :: as) Pre g) Qc mc ms free) (L : LnkI own idx y b mL n) (hR : RmOk rm R mL mc ms cells slots)
    (hpre : Pre H) (hn : as.length = n) (hsz : ls.size = nL) (hst : st0 = as.reverse ++ .ref a :: rest) (hW : (rest.map fun v => v.category).sum ≤ 8) (hdg : decode cc pc = .ok (.invokespecial idx, 3)) :
    va_Run p l e R s m args below meth c H locs cells slots mc ms (F0 m pc ls st0) rest (Qc (Value.ref a :: as).toArray) free :=
  va_runI (As := as) (rest := rest) hC hM (cwI n hC.2.2.2.2 (good_cons L.2.2.2.2.1) rfl hR.2.1.1 hR.2.1.2 (hC.2.2.2.2 _ L.2.2.2.1) (hC.2.2.2.2 _ L.1) (hC.2.2.2.2 _ L.2.1) L.2.2.1 ⟨L.2.2.2.2.2.1.1, L.2.2.2.2.2.1.2, L.2.2.2.2.2.2⟩ hR.1) ⟨kPc_blind, fun U hU hW => ⟨rfl, by rw [hU]; exact hpre, hK.moved hW⟩⟩ rfl hn hsz hst (lv_room hW) hdg hR.2.2
theorem k_callPI {rest st0 : List Value} {E : Int32} {a : Array Value} (hr : va_Run p l e R s m args below meth c H locs cells slots 0 0 (F0 m pc ls st0) rest (vp_Si (fun r => r = E) a) (fun _ => False)) (kk : W p l e R s m args below meth c H locs cells slots Q (F0 m (pc + 3) ls (.int E :: rest))) : W p l e R s m args below meth c H locs cells slots Q (F0 m pc ls st0) :=
  vp_callSi hr.run (fun r hr => by rw [hr]; exact kk)
theorem k_callPL {rest st0 : List Value} {E : Int64} {a : Array Value} (hr : va_Run p l e R s m args below meth c H locs cells slots 0 0 (F0 m pc ls st0) rest (vp_Sl (fun r => r = E) a) (fun _ => False)) (kk : W p l e R s m args below meth c H locs cells slots Q (F0 m (pc + 3) ls (.long E :: rest))) : W p l e R s m args below meth c H locs cells slots Q (F0 m pc ls st0) :=
  vp_callSl hr.run (fun r hr => by rw [hr]; exact kk)
theorem k_callPR {rest st0 : List Value} {E : Nat} {a : Array Value} (hr : va_Run p l e R s m args below meth c H locs cells slots 0 0 (F0 m pc ls st0) rest (va_Sr (fun r => r = E) Value.ref a) (fun _ => False)) (kk : W p l e R s m args below meth c H locs cells slots Q (F0 m (pc + 3) ls (.ref E :: rest))) : W p l e R s m args below meth c H locs cells slots Q (F0 m pc ls st0) :=
  va_csr hr.run (fun r hr => by rw [hr]; exact kk)
theorem k_callMI {rest st0 : List Value} {A1 A0 : Nat → Prop} {H0 : Heap} {mc ms : Nat} {post : Int32 → Heap → Prop} {a : Array Value} (hr : va_Run p l e R s m args below meth c H locs cells slots mc ms (F0 m pc ls st0) rest (qI A1 post a) A1) (hS : va_S A0 H0 H locs) (hA : ∀ q, A1 q → A0 q)
    (kk : ∀ (r : Int32) (H1 : Heap) (locs1 : List Loc), post r H1 → H.size ≤ H1.size → (∀ q : Nat, q < H.size → ¬ A1 q → H1[q]? = H[q]?) → va_S A0 H0 H1 locs1 → W p l e R s m args below meth c H1 locs1 (cells + mc) (slots + ms) Q (F0 m (pc + 3) ls (.int r :: rest))) : W p l e R s m args below meth c H locs cells slots Q (F0 m pc ls st0) :=
  va_calli hr hS (fun q _ h => hA q h) hA (fun r u t H1 locs1 ht _ hru hb hz hk hS1 => kk r H1 locs1 (by rw [hru, ← ht]; exact hb) hz hk hS1)
theorem k_callML {rest st0 : List Value} {A1 A0 : Nat → Prop} {H0 : Heap} {mc ms : Nat} {post : Int64 → Heap → Prop} {a : Array Value} (hr : va_Run p l e R s m args below meth c H locs cells slots mc ms (F0 m pc ls st0) rest (qL A1 post a) A1) (hS : va_S A0 H0 H locs) (hA : ∀ q, A1 q → A0 q)
    (kk : ∀ (r : Int64) (H1 : Heap) (locs1 : List Loc), post r H1 → H.size ≤ H1.size → (∀ q : Nat, q < H.size → ¬ A1 q → H1[q]? = H[q]?) → va_S A0 H0 H1 locs1 → W p l e R s m args below meth c H1 locs1 (cells + mc) (slots + ms) Q (F0 m (pc + 3) ls (.long r :: rest))) : W p l e R s m args below meth c H locs cells slots Q (F0 m pc ls st0) :=
  va_calll hr hS (fun q _ h => hA q h) hA (fun r u t H1 locs1 ht _ hru hb hz hk hS1 => kk r H1 locs1 (by rw [hru, ← ht]; exact hb) hz hk hS1)
theorem k_callMV {rest st0 : List Value} {A1 A0 : Nat → Prop} {H0 : Heap} {mc ms : Nat} {post : Heap → Prop} {a : Array Value} (hr : va_Run p l e R s m args below meth c H locs cells slots mc ms (F0 m pc ls st0) rest (qV A1 post a) A1) (hS : va_S A0 H0 H locs) (hA : ∀ q, A1 q → A0 q)
    (kk : ∀ (H1 : Heap) (locs1 : List Loc), post H1 → H.size ≤ H1.size → (∀ q : Nat, q < H.size → ¬ A1 q → H1[q]? = H[q]?) → va_S A0 H0 H1 locs1 → W p l e R s m args below meth c H1 locs1 (cells + mc) (slots + ms) Q (F0 m (pc + 3) ls rest)) : W p l e R s m args below meth c H locs cells slots Q (F0 m pc ls st0) :=
  va_callv hr hS (fun q _ h => hA q h) hA (fun u t H1 locs1 ht _ _ hb hz hk hS1 => kk H1 locs1 (by rw [← ht]; exact hb) hz hk hS1)
/-! numbers that count -/
theorem n_iadd {rest : List Value} {x y : Nat} (hC : CallFix p m c cc nL s args lw_good own) (hdg : decode cc pc = .ok (.iadd, 1)) (k : W p l e R s m args below meth c H locs cells slots Q (F0 m (pc + 1) ls (.int (nI (x + y)) :: rest))) : W p l e R s m args below meth c H locs cells slots Q (F0 m pc ls (.int (nI y) :: .int (nI x) :: rest)) := by
  refine lv_iadd hC.1 hC.2.1 hdg ?_
  rw [nI_add]
  exact k
theorem n_isub {rest : List Value} {x y : Nat} (hC : CallFix p m c cc nL s args lw_good own) (hdg : decode cc pc = .ok (.isub, 1)) (h : y ≤ x) (k : W p l e R s m args below meth c H locs cells slots Q (F0 m (pc + 1) ls (.int (nI (x - y)) :: rest))) : W p l e R s m args below meth c H locs cells slots Q (F0 m pc ls (.int (nI y) :: .int (nI x) :: rest)) := by
  refine lv_isub hC.1 hC.2.1 hdg ?_
  rw [pk_sub h]
  exact k
theorem n_imul {rest : List Value} {x y : Nat} (hC : CallFix p m c cc nL s args lw_good own) (hdg : decode cc pc = .ok (.imul, 1)) (k : W p l e R s m args below meth c H locs cells slots Q (F0 m (pc + 1) ls (.int (nI (x * y)) :: rest))) : W p l e R s m args below meth c H locs cells slots Q (F0 m pc ls (.int (nI y) :: .int (nI x) :: rest)) := by
  refine lv_imul hC.1 hC.2.1 hdg ?_
  rw [pk_mul]
  exact k
theorem n_idiv {rest : List Value} {x y : Nat} (hC : CallFix p m c cc nL s args lw_good own) (hdg : decode cc pc = .ok (.idiv, 1)) (hx : x < 2 ^ 31) (hy : y < 2 ^ 31) (h0 : 0 < y) (k : W p l e R s m args below meth c H locs cells slots Q (F0 m (pc + 1) ls (.int (nI (x / y)) :: rest))) : W p l e R s m args below meth c H locs cells slots Q (F0 m pc ls (.int (nI y) :: .int (nI x) :: rest)) := by
  refine lv_idiv hC.1 hC.2.1 hdg (nI_ne0 h0 hy) ?_
  rw [pk_div hx h0 hy]
  exact k
theorem n_irem {rest : List Value} {x y : Nat} (hC : CallFix p m c cc nL s args lw_good own) (hdg : decode cc pc = .ok (.irem, 1)) (hx : x < 2 ^ 31) (hy : y < 2 ^ 31) (h0 : 0 < y) (k : W p l e R s m args below meth c H locs cells slots Q (F0 m (pc + 1) ls (.int (nI (x % y)) :: rest))) : W p l e R s m args below meth c H locs cells slots Q (F0 m pc ls (.int (nI y) :: .int (nI x) :: rest)) := by
  refine lv_irem hC.1 hC.2.1 hdg (nI_ne0 h0 hy) ?_
  rw [pk_rem hx h0 hy]
  exact k
theorem n_iinc {rest : List Value} {i x : Nat} {lv lv' : List (Nat × Value)} (hC : CallFix p m c cc nL s args lw_good own) (hdg : decode cc pc = .ok (.iinc i 1, 3)) (h : lv_has ls nL lv) (hk : lv.find? (fun q => q.1 == i) = some (i, .int (nI x))) (hn : i < nL) (hl : (i, Value.int (nI (x + 1))) :: lv.filter (fun q => !(q.1 == i) && !(q.1 + 1 == i && q.2.category == 2)) = lv')
    (kk : ∀ ls' : Array Slot, lv_has ls' nL lv' → W p l e R s m args below meth c H locs cells slots Q (F0 m (pc + 3) ls' rest)) : W p l e R s m args below meth c H locs cells slots Q (F0 m pc ls rest) := by
  obtain ⟨k, hk2⟩ := List.getElem?_of_mem (List.mem_of_find?_eq_some hk)
  exact lv_iinc hC.1 hC.2.1 hdg h hk2 (show nI x + Int32.ofInt 1 = nI (x + 1) from nI_1 x) hn hl kk
theorem n_idec {rest : List Value} {i x : Nat} {lv lv' : List (Nat × Value)} (hC : CallFix p m c cc nL s args lw_good own) (hdg : decode cc pc = .ok (.iinc i (-1), 3)) (h : lv_has ls nL lv) (hk : lv.find? (fun q => q.1 == i) = some (i, .int (nI (x + 1)))) (hn : i < nL) (hl : (i, Value.int (nI x)) :: lv.filter (fun q => !(q.1 == i) && !(q.1 + 1 == i && q.2.category == 2)) = lv')
    (kk : ∀ ls' : Array Slot, lv_has ls' nL lv' → W p l e R s m args below meth c H locs cells slots Q (F0 m (pc + 3) ls' rest)) : W p l e R s m args below meth c H locs cells slots Q (F0 m pc ls rest) := by
  obtain ⟨k, hk2⟩ := List.getElem?_of_mem (List.mem_of_find?_eq_some hk)
  exact lv_iinc hC.1 hC.2.1 hdg h hk2 (show nI (x + 1) + Int32.ofInt (-1) = nI x from pk_m1 x) hn hl kk
theorem n_icmp_lt {rest : List Value} {x y : Nat} {off : Int} {tgt : Nat} (hC : CallFix p m c cc nL s args lw_good own) (hdg : decode cc pc = .ok (.if_icmp .lt off, 3)) (hx : x < 2 ^ 31) (hy : y < 2 ^ 31) (ht : (pc : Int) + off = (tgt : Int)) (kt : x < y → W p l e R s m args below meth c H locs cells slots Q (F0 m tgt ls rest)) (kf : ¬ x < y → W p l e R s m args below meth c H locs cells slots Q (F0 m (pc + 3) ls rest)) : W p l e R s m args below meth c H locs cells slots Q (F0 m pc ls (.int (nI y) :: .int (nI x) :: rest)) :=
  lv_icmp_lt hC.1 hC.2.1 hdg ht (fun h => kt ((nI_ltI hx hy).mp h)) (fun h => kf (fun q => h ((nI_ltI hx hy).mpr q)))
theorem n_icmp_ge {rest : List Value} {x y : Nat} {off : Int} {tgt : Nat} (hC : CallFix p m c cc nL s args lw_good own) (hdg : decode cc pc = .ok (.if_icmp .ge off, 3)) (hx : x < 2 ^ 31) (hy : y < 2 ^ 31) (ht : (pc : Int) + off = (tgt : Int)) (kt : y ≤ x → W p l e R s m args below meth c H locs cells slots Q (F0 m tgt ls rest)) (kf : ¬ y ≤ x → W p l e R s m args below meth c H locs cells slots Q (F0 m (pc + 3) ls rest)) : W p l e R s m args below meth c H locs cells slots Q (F0 m pc ls (.int (nI y) :: .int (nI x) :: rest)) :=
  lv_icmp_ge hC.1 hC.2.1 hdg ht (fun h => kt ((nI_leI hy hx).mp h)) (fun h => kf (fun q => h ((nI_leI hy hx).mpr q)))
theorem n_icmp_gt {rest : List Value} {x y : Nat} {off : Int} {tgt : Nat} (hC : CallFix p m c cc nL s args lw_good own) (hdg : decode cc pc = .ok (.if_icmp .gt off, 3)) (hx : x < 2 ^ 31) (hy : y < 2 ^ 31) (ht : (pc : Int) + off = (tgt : Int)) (kt : y < x → W p l e R s m args below meth c H locs cells slots Q (F0 m tgt ls rest)) (kf : ¬ y < x → W p l e R s m args below meth c H locs cells slots Q (F0 m (pc + 3) ls rest)) : W p l e R s m args below meth c H locs cells slots Q (F0 m pc ls (.int (nI y) :: .int (nI x) :: rest)) :=
  lv_icmp_gt hC.1 hC.2.1 hdg ht (fun h => kt ((nI_ltI hy hx).mp h)) (fun h => kf (fun q => h ((nI_ltI hy hx).mpr q)))
theorem n_icmp_le {rest : List Value} {x y : Nat} {off : Int} {tgt : Nat} (hC : CallFix p m c cc nL s args lw_good own) (hdg : decode cc pc = .ok (.if_icmp .le off, 3)) (hx : x < 2 ^ 31) (hy : y < 2 ^ 31) (ht : (pc : Int) + off = (tgt : Int)) (kt : x ≤ y → W p l e R s m args below meth c H locs cells slots Q (F0 m tgt ls rest)) (kf : ¬ x ≤ y → W p l e R s m args below meth c H locs cells slots Q (F0 m (pc + 3) ls rest)) : W p l e R s m args below meth c H locs cells slots Q (F0 m pc ls (.int (nI y) :: .int (nI x) :: rest)) :=
  lv_icmp_le hC.1 hC.2.1 hdg ht (fun h => kt ((nI_leI hx hy).mp h)) (fun h => kf (fun q => h ((nI_leI hx hy).mpr q)))
theorem n_icmp_eq {rest : List Value} {x y : Nat} {off : Int} {tgt : Nat} (hC : CallFix p m c cc nL s args lw_good own) (hdg : decode cc pc = .ok (.if_icmp .eq off, 3)) (hx : x < 2 ^ 31) (hy : y < 2 ^ 31) (ht : (pc : Int) + off = (tgt : Int)) (kt : x = y → W p l e R s m args below meth c H locs cells slots Q (F0 m tgt ls rest)) (kf : ¬ x = y → W p l e R s m args below meth c H locs cells slots Q (F0 m (pc + 3) ls rest)) : W p l e R s m args below meth c H locs cells slots Q (F0 m pc ls (.int (nI y) :: .int (nI x) :: rest)) :=
  lv_icmp_eq hC.1 hC.2.1 hdg ht (fun h => kt ((nI_eq hx hy).mp h)) (fun h => kf (fun q => h ((nI_eq hx hy).mpr q)))
theorem n_icmp_ne {rest : List Value} {x y : Nat} {off : Int} {tgt : Nat} (hC : CallFix p m c cc nL s args lw_good own) (hdg : decode cc pc = .ok (.if_icmp .ne off, 3)) (hx : x < 2 ^ 31) (hy : y < 2 ^ 31) (ht : (pc : Int) + off = (tgt : Int)) (kt : ¬ x = y → W p l e R s m args below meth c H locs cells slots Q (F0 m tgt ls rest)) (kf : x = y → W p l e R s m args below meth c H locs cells slots Q (F0 m (pc + 3) ls rest)) : W p l e R s m args below meth c H locs cells slots Q (F0 m pc ls (.int (nI y) :: .int (nI x) :: rest)) :=
  lv_icmp_ne hC.1 hC.2.1 hdg ht (fun h => kt (fun q => h ((nI_eq hx hy).mpr q))) (fun h => kf ((nI_eq hx hy).mp h))
end KB
/-! the reference's world -/
section KR
variable {p : Program} {l : Launch} {e : Env} {R : Room} {s : State} {m : MethodId} {args : Array Value} {below : List Frame} {meth : Method} {c : Code} {H : Heap} {locs : List Loc} {cells slots : Nat} {Q : State → Prop}
variable {cc : ByteArray} {pc nL : Nat} {ls : Array Slot} {own : String} {g : kG} {o q n : Nat} {f : Nat → Int32}
end KR

