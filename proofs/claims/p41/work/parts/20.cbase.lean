/-! the class's cells -/
abbrev cM (x : Nat → Nat) (y n : Nat) : Nat × va_E := (x 0, .inr (4, [.ref y, .ref (x 1), .int (nI n), .ref (x 2), .ref (x 5), .ref (x 6), .ref (x 7)]))
abbrev cS (a : Nat → Nat) (f : Nat → Int32) : Nat × va_E := (a 0, .inr (3, [.int (f 0), .int (f 1), .int (f 2), .int (f 3), .int (f 4), .int (f 5), .int (f 6), .int (f 7), .ref (a 1), .ref (a 2), .ref (a 3), .ref (a 6), .int (f 61)]))
abbrev cE (y : Nat) (v0 v1 v2 v3 : Int32) : Nat × va_E := (y, .inr (2, [.int v0, .int v1, .int v2, .int v3]))
abbrev cD (a : Nat → Nat) (f : Nat → Int32) : Nat × va_E := (a 3, .inr (1, [.int (f 16), .int (f 17), .int (f 18), .ref (a 4), .ref (a 5)]))
abbrev cI (g : kG) (y n : Nat) (h : Nat → Int32) : Nat × va_E := (y, .inl (g.2.1, n, .inl h))
abbrev cR (g : kG) (y : Nat) (rf : Nat → Option Nat) : Nat × va_E := (y, .inl (g.2.2.1, 10, .inr (.inr (.inr (.inr rf)))))
abbrev cC (q qo qi : Nat) (e0 sp : Int32) : Nat × va_E := (q, .inr (0, [.int e0, .int sp, .ref qo, .ref qi]))
abbrev wC (g : kG) (q qo qi : Nat) (e0 sp : Int32) (p : Nat → Int32) : va_W := [cC q qo qi e0 sp, cI g qo 21 p, cI g qi 21 (fun k => p (21 + k))]
/-- the scratch of the class: the trial card's rows, the trial events, the found ones, the sorted areas -/
def SC (x : Nat → Nat) : Nat → Prop := fun q => q = x 3 ∨ q = x 4 ∨ q = x 5 ∨ q = x 6 ∨ q = x 7
def CDS (g : kG) (x : Nat → Nat) (f : Nat → Int32) (cn : Nat) (rf : Nat → Option Nat) (H : Heap) : Prop :=
  ∀ i, i < cn → ∃ q qo qi, rf i = some q ∧ va_P g.1 kCl (wC g q qo qi (f (62 + 44 * i)) (f (62 + 44 * i + 1)) (s_pt f i)) H ∧ ¬ SC x q ∧ ¬ SC x qo ∧ ¬ SC x qi
abbrev wB (g : kG) (x a : Nat → Nat) (n : Nat) (f : Nat → Int32) (rf : Nat → Option Nat) : va_W := [cM x (a 0) n, cS a f, cE (a 1) (f 8) (f 9) (f 10) (f 11), cE (a 2) (f 12) (f 13) (f 14) (f 15), cR g (a 6) rf, cC (x 2) (x 3) (x 4) (nI 0) (nI 0)]
/-- what the queries read: it isn't scratch -/
def XB (g : kG) (x a : Nat → Nat) (n : Nat) (f : Nat → Int32) (cn : Nat) (rf : Nat → Option Nat) (H : Heap) : Prop :=
  va_P g.1 kCl (wB g x a n f rf) H ∧ (∀ (k : Nat) (q : Nat × va_E), (wB g x a n f rf)[k]? = some q → ¬ SC x q.1) ∧ CDS g x f cn rf H
theorem XB.kept {g : kG} {x a : Nat → Nat} {n cn : Nat} {f : Nat → Int32} {rf : Nat → Option Nat} {H H1 : Heap} (h : XB g x a n f cn rf H) (hk : ∀ q : Nat, q < H.size → ¬ SC x q → H1[q]? = H[q]?) : XB g x a n f cn rf H1 := by
  obtain ⟨h1, h2, h3⟩ := h
  refine ⟨h1.kept (fun k q hq => hk q.1 (h1 k q hq).lt (h2 k q hq)), h2, fun i hi => ?_⟩
  obtain ⟨q, qo, qi, e1, e2, e3, e4, e5⟩ := h3 i hi
  refine ⟨q, qo, qi, e1, e2.kept (fun k z hz => hk z.1 (e2 k z hz).lt ?_), e3, e4, e5⟩
  match k, hz with
  | 0, hz => cases hz; exact e3
  | 1, hz => cases hz; exact e4
  | 2, hz => cases hz; exact e5
  | k + 3, hz => simp at hz
theorem XB.at {g : kG} {x a : Nat → Nat} {n cn : Nat} {f : Nat → Int32} {rf : Nat → Option Nat} {H H1 : Heap} {locs : List Loc} (h : XB g x a n f cn rf H) (hS : va_S (SC x) H H1 locs) : XB g x a n f cn rf H1 := h.kept hS.2.1
abbrev wT (g : kG) (x : Nat → Nat) (tr te fo so : Nat → Int32) : va_W := [cI g (x 3) 21 tr, cI g (x 4) 21 (fun k => tr (21 + k)), cE (x 5) (te 0) (te 1) (te 2) (te 3), cE (x 6) (fo 0) (fo 1) (fo 2) (fo 3), cI g (x 7) 10 so]
def XT (g : kG) (x : Nat → Nat) (tr te fo so : Nat → Int32) (H : Heap) : Prop := va_P g.1 kCl (wT g x tr te fo so) H ∧ va_D (SC x) (wT g x tr te fo so)
section KC
variable {p : Program} {l : Launch} {e : Env} {R : Room} {s : State} {m : MethodId} {args : Array Value} {below : List Frame} {meth : Method} {c : Code} {H : Heap} {locs : List Loc} {cells slots : Nat} {Q : State → Prop}
variable {cc : ByteArray} {pc nL : Nat} {ls : Array Slot} {own : String} {g : kG} {ws : va_W} {A : Nat → Prop} {H0 : Heap}
theorem k_ald {rest : List Value} {k a nn : Nat} {h : Nat → Int32} (hC : CallFix p m c cc nL s args lw_good own) (hK : KK g s) (hP : va_P g.1 kCl ws H) (pos : Nat) (ha : ws[pos]? = some (a, .inl (g.2.1, nn, .inl h))) (hk : k < nn) (h2 : nn < 2 ^ 31) (hdg : decode cc pc = .ok (.iaload, 1)) (kk : W p l e R s m args below meth c H locs cells slots Q (F0 m (pc + 1) ls (.int (h k) :: rest))) : W p l e R s m args below meth c H locs cells slots Q (F0 m pc ls (.int (nI k) :: .ref a :: rest)) := by
  refine va_iald hC.1 hC.2.1 hK.1 hP pos 0 ha rfl (vp_in_nI hk h2) hdg ?_
  rw [nI_clamp (by omega)]
  exact kk
theorem k_ast {rest : List Value} {k a nn : Nat} {h : Nat → Int32} {v : Int32} (hC : CallFix p m c cc nL s args lw_good own) (hK : KK g s) (hP : va_P g.1 kCl ws H) (hD : va_D A ws) (hS : va_S A H0 H locs) (pos : Nat) (ha : ws[pos]? = some (a, .inl (g.2.1, nn, .inl h))) (hk : k < nn) (h2 : nn < 2 ^ 31) (hdg : decode cc pc = .ok (.iastore, 1))
    (kk : ∀ (H1 : Heap) (locs1 : List Loc), va_P g.1 kCl (ws.set pos (a, .inl (g.2.1, nn, .inl (upd h k v)))) H1 → va_D A (ws.set pos (a, .inl (g.2.1, nn, .inl (upd h k v)))) → va_S A H0 H1 locs1 → W p l e R s m args below meth c H1 locs1 cells slots Q (F0 m (pc + 1) ls rest)) : W p l e R s m args below meth c H locs cells slots Q (F0 m pc ls (.int v :: .int (nI k) :: .ref a :: rest)) := by
  refine va_iast hC.1 hC.2.1 hK.1 hP hD hS pos 0 ha rfl (vp_in_nI hk h2) hdg ?_
  rw [nI_clamp (by omega)]
  exact kk
theorem q_ald {rest : List Value} {k a b nn : Nat} {rf : Nat → Option Nat} (hC : CallFix p m c cc nL s args lw_good own) (hK : KK g s) (hP : va_P g.1 kCl ws H) (pos : Nat) (ha : ws[pos]? = some (a, .inl (g.2.2.1, nn, .inr (.inr (.inr (.inr rf)))))) (hk : k < nn) (h2 : nn < 2 ^ 31) (hr : rf k = some b) (hdg : decode cc pc = .ok (.aaload, 1)) (kk : W p l e R s m args below meth c H locs cells slots Q (F0 m (pc + 1) ls (.ref b :: rest))) : W p l e R s m args below meth c H locs cells slots Q (F0 m pc ls (.int (nI k) :: .ref a :: rest)) := by
  refine va_aldq (C := RX0) hC.1 hC.2.1 hK.1 hP pos 1 ha rfl (vp_in_nI hk h2) hdg ?_
  rw [nI_clamp (by omega), hr]
  exact kk
theorem q_ald2 {rest : List Value} {k a b nn : Nat} {rf : Nat → Option Nat} (hC : CallFix p m c cc nL s args lw_good own) (hK : KK g s) (hP : va_P g.1 kCl ws H) (pos : Nat) (ha : ws[pos]? = some (a, .inl (g.2.2.2, nn, .inr (.inr (.inr (.inr rf)))))) (hk : k < nn) (h2 : nn < 2 ^ 31) (hr : rf k = some b) (hdg : decode cc pc = .ok (.aaload, 1)) (kk : W p l e R s m args below meth c H locs cells slots Q (F0 m (pc + 1) ls (.ref b :: rest))) : W p l e R s m args below meth c H locs cells slots Q (F0 m pc ls (.int (nI k) :: .ref a :: rest)) := by
  refine va_aldq (C := RX3) hC.1 hC.2.1 hK.1 hP pos 2 ha rfl (vp_in_nI hk h2) hdg ?_
  rw [nI_clamp (by omega), hr]
  exact kk
theorem k_recv {a ci : Nat} {fs : List Value} {r : vw_C} (hK : KK g s) (hP : va_P g.1 kCl ws H) (pos : Nat) (ha : ws[pos]? = some (a, .inr (ci, fs))) (hc : kCl[ci]? = some r) : ∃ cellB : Cell, H[a]? = some cellB ∧ cellB.vm.isStatics = false ∧ s.vm.findClass r.1 = some cellB.cls := va_recv hK.1 hP (ci := ci) (q0 := pos) hc ha
end KC
theorem kOfF {l : Launch} {y : MethodName} {b : ByteArray} {n : Nat} {rt : Option FieldType} {rm : Room} {as : List Value} {Pre : Heap → Prop} {g : kG} {Qc : Array Value → State → Outcome → State → Prop} {mc ms : Nat} {free : Addr → Prop}
    (hy : plainFor y = true) (hle : (lg_sl as).length ≤ n)
    (body : ∀ (p : Program) (e : Env) (s : State) (m : MethodId) (below : List Frame) (meth : Method) (c : Code) (ls : Array Slot), CallFix p m c b n s as.toArray lw_good y.cls → meth.sig.returnType = rt → meth.locks = false → meth.name = y.name → KK g s → Pre s.heap → lv_has ls n (lv_args 0 as) →
      W p l e rm s m as.toArray below meth c s.heap [] 0 0 (MQ below Qc as.toArray s mc ms free) (F0 m 0 ls [])) : Met l y (kw y b n rt) rm (kPc as Pre g) Qc mc ms free := by
  refine va_MetF (cc := b) (maxL := n) (ret := rt) hy rfl ?_
  intro p e s m args below meth c s₁ B hml hv
  obtain ⟨rfl, hpre, hK⟩ := hv
  have hts0 := atoms_spec (ws := kw y b n rt) B.pre
  have hts : ∀ w ∈ lw_good, w.before as.toArray s = true := fun w hw => hts0 w (List.mem_cons_of_mem _ hw)
  have hown : s.vm.findClass y.cls = some m.cls := findClass_of_methodNamed B.named
  have hin : meth.name = y.name := (name_of_methodNamed B.named B.method).1
  rw [lg_entry_eq]
  exact body p e s m below meth c _ ⟨B.exec, B.bytes, hml, hown, hts⟩ B.returns B.notSynchronized hin hK hpre (lv_entry as hle)
